set_option maxRecDepth 20000 in
theorem in_X5_needChart_X5 : ∀ w ∈ wsX50, w ∈ wsX5_needChart := by decide +kernel
set_option maxRecDepth 20000 in
theorem fl_X5_needChart_12 : Cond.fieldLink RX5 12 "PotLabels" "bureau" "LPotLabels$Bureau;" ∈ wsX5_needChart := by decide +kernel
set_option maxRecDepth 20000 in
theorem in_X5_needChart_X0 : ∀ w ∈ wsX00, w ∈ wsX5_needChart := by decide +kernel
set_option maxRecDepth 20000 in
theorem nl_X5_198 : Cond.fieldLinkNest "PotLabels" 198 "PotLabels$Bureau" "charts" "I" "PotLabels" ∈ nestF := by decide +kernel
set_option maxRecDepth 20000 in
theorem ks_X5_needPot : yX5_needPot.cls ≠ "java/lang/invoke/MethodHandle" ∧ yX5_needPot.cls ≠ "java/lang/invoke/VarHandle" ∧ (parseMethodDescriptor yX5_needPot.desc).map (fun d => d.parameters.length) = some 1 := by decide +kernel
set_option maxRecDepth 20000 in
theorem ks_X5_needWithin : yX5_needWithin.cls ≠ "java/lang/invoke/MethodHandle" ∧ yX5_needWithin.cls ≠ "java/lang/invoke/VarHandle" ∧ (parseMethodDescriptor yX5_needWithin.desc).map (fun d => d.parameters.length) = some 3 := by decide +kernel
set_option maxRecDepth 20000 in
theorem in_X5_mix_X5 : ∀ w ∈ wsX50, w ∈ wsX5_mix := by decide +kernel
set_option maxRecDepth 20000 in
theorem fl_X5_mix_19 : Cond.fieldLink RX5 19 "PotLabels" "memory" "LPotLabels$Memory;" ∈ wsX5_mix := by decide +kernel
set_option maxRecDepth 20000 in
theorem fl_X5_mix_12 : Cond.fieldLink RX5 12 "PotLabels" "bureau" "LPotLabels$Bureau;" ∈ wsX5_mix := by decide +kernel
set_option maxRecDepth 20000 in
theorem kd_X3_save : yX3_save.cls = RX3 ∧ yX3_save.cls ≠ "java/lang/invoke/MethodHandle" ∧ yX3_save.cls ≠ "java/lang/invoke/VarHandle" ∧ (parseMethodDescriptor yX3_save.desc).map (fun d => d.parameters.length) = some 1 := by decide +kernel
set_option maxRecDepth 20000 in
theorem in_X5_mix_X0 : ∀ w ∈ wsX00, w ∈ wsX5_mix := by decide +kernel
set_option maxRecDepth 20000 in
theorem nl_X5_49 : Cond.fieldLinkNest "PotLabels" 49 "PotLabels$Bureau" "colours" "[I" "PotLabels" ∈ nestF := by decide +kernel
set_option maxRecDepth 20000 in
theorem ks_X1_withPart : yX1_withPart.cls ≠ "java/lang/invoke/MethodHandle" ∧ yX1_withPart.cls ≠ "java/lang/invoke/VarHandle" ∧ (parseMethodDescriptor yX1_withPart.desc).map (fun d => d.parameters.length) = some 3 := by decide +kernel
set_option maxRecDepth 20000 in
theorem ks_X5_needPainter : yX5_needPainter.cls ≠ "java/lang/invoke/MethodHandle" ∧ yX5_needPainter.cls ≠ "java/lang/invoke/VarHandle" ∧ (parseMethodDescriptor yX5_needPainter.desc).map (fun d => d.parameters.length) = some 1 := by decide +kernel
set_option maxRecDepth 20000 in
theorem in_X5_painter_X5 : ∀ w ∈ wsX50, w ∈ wsX5_painter := by decide +kernel
set_option maxRecDepth 20000 in
theorem fl_X5_painter_19 : Cond.fieldLink RX5 19 "PotLabels" "memory" "LPotLabels$Memory;" ∈ wsX5_painter := by decide +kernel
set_option maxRecDepth 20000 in
theorem fl_X5_painter_12 : Cond.fieldLink RX5 12 "PotLabels" "bureau" "LPotLabels$Bureau;" ∈ wsX5_painter := by decide +kernel
set_option maxRecDepth 20000 in
theorem in_X5_painter_X0 : ∀ w ∈ wsX00, w ∈ wsX5_painter := by decide +kernel
set_option maxRecDepth 20000 in
theorem nl_X5_66 : Cond.fieldLinkNest "PotLabels" 66 "PotLabels$Bureau" "kinds" "[I" "PotLabels" ∈ nestF := by decide +kernel
set_option maxRecDepth 20000 in
theorem nl_X5_69 : Cond.fieldLinkNest "PotLabels" 69 "PotLabels$Bureau" "sharpnesses" "[I" "PotLabels" ∈ nestF := by decide +kernel
set_option maxRecDepth 20000 in
theorem in_X5_borrow_X5 : ∀ w ∈ wsX50, w ∈ wsX5_borrow := by decide +kernel
set_option maxRecDepth 20000 in
theorem fl_X5_borrow_19 : Cond.fieldLink RX5 19 "PotLabels" "memory" "LPotLabels$Memory;" ∈ wsX5_borrow := by decide +kernel
set_option maxRecDepth 20000 in
theorem fl_X5_borrow_12 : Cond.fieldLink RX5 12 "PotLabels" "bureau" "LPotLabels$Bureau;" ∈ wsX5_borrow := by decide +kernel
set_option maxRecDepth 20000 in
theorem in_X5_borrow_X0 : ∀ w ∈ wsX00, w ∈ wsX5_borrow := by decide +kernel
set_option maxRecDepth 20000 in
theorem nl_X5_72 : Cond.fieldLinkNest "PotLabels" 72 "PotLabels$Bureau" "lenders" "[I" "PotLabels" ∈ nestF := by decide +kernel
set_option maxRecDepth 20000 in
theorem in_X5_label_X5 : ∀ w ∈ wsX50, w ∈ wsX5_label := by decide +kernel
set_option maxRecDepth 20000 in
theorem fl_X5_label_19 : Cond.fieldLink RX5 19 "PotLabels" "memory" "LPotLabels$Memory;" ∈ wsX5_label := by decide +kernel
set_option maxRecDepth 20000 in
theorem fl_X5_label_12 : Cond.fieldLink RX5 12 "PotLabels" "bureau" "LPotLabels$Bureau;" ∈ wsX5_label := by decide +kernel
set_option maxRecDepth 20000 in
theorem in_X5_label_X0 : ∀ w ∈ wsX00, w ∈ wsX5_label := by decide +kernel
set_option maxRecDepth 20000 in
theorem nl_X5_75 : Cond.fieldLinkNest "PotLabels" 75 "PotLabels$Bureau" "labels" "[I" "PotLabels" ∈ nestF := by decide +kernel
set_option maxRecDepth 20000 in
theorem in_X5_labelAll_X5 : ∀ w ∈ wsX50, w ∈ wsX5_labelAll := by decide +kernel
set_option maxRecDepth 20000 in
theorem fl_X5_labelAll_19 : Cond.fieldLink RX5 19 "PotLabels" "memory" "LPotLabels$Memory;" ∈ wsX5_labelAll := by decide +kernel
set_option maxRecDepth 20000 in
theorem fl_X5_labelAll_12 : Cond.fieldLink RX5 12 "PotLabels" "bureau" "LPotLabels$Bureau;" ∈ wsX5_labelAll := by decide +kernel
set_option maxRecDepth 20000 in
theorem kd_X0_labelInOrder : yX0_labelInOrder.cls = RX0 ∧ yX0_labelInOrder.cls ≠ "java/lang/invoke/MethodHandle" ∧ yX0_labelInOrder.cls ≠ "java/lang/invoke/VarHandle" ∧ (parseMethodDescriptor yX0_labelInOrder.desc).map (fun d => d.parameters.length) = some 1 := by decide +kernel
set_option maxRecDepth 20000 in
theorem kd_X0_unlikeLabels : yX0_unlikeLabels.cls = RX0 ∧ yX0_unlikeLabels.cls ≠ "java/lang/invoke/MethodHandle" ∧ yX0_unlikeLabels.cls ≠ "java/lang/invoke/VarHandle" ∧ (parseMethodDescriptor yX0_unlikeLabels.desc).map (fun d => d.parameters.length) = some 0 := by decide +kernel
set_option maxRecDepth 20000 in
theorem ks_X5_needUnlike : yX5_needUnlike.cls ≠ "java/lang/invoke/MethodHandle" ∧ yX5_needUnlike.cls ≠ "java/lang/invoke/VarHandle" ∧ (parseMethodDescriptor yX5_needUnlike.desc).map (fun d => d.parameters.length) = some 2 := by decide +kernel
set_option maxRecDepth 20000 in
theorem in_X5_hang_X5 : ∀ w ∈ wsX50, w ∈ wsX5_hang := by decide +kernel
set_option maxRecDepth 20000 in
theorem fl_X5_hang_19 : Cond.fieldLink RX5 19 "PotLabels" "memory" "LPotLabels$Memory;" ∈ wsX5_hang := by decide +kernel
set_option maxRecDepth 20000 in
theorem fl_X5_hang_12 : Cond.fieldLink RX5 12 "PotLabels" "bureau" "LPotLabels$Bureau;" ∈ wsX5_hang := by decide +kernel
set_option maxRecDepth 20000 in
theorem kd_X0_addChart : yX0_addChart.cls = RX0 ∧ yX0_addChart.cls ≠ "java/lang/invoke/MethodHandle" ∧ yX0_addChart.cls ≠ "java/lang/invoke/VarHandle" ∧ (parseMethodDescriptor yX0_addChart.desc).map (fun d => d.parameters.length) = some 2 := by decide +kernel
set_option maxRecDepth 20000 in
theorem kd_X5_needChart : yX5_needChart.cls = RX5 ∧ yX5_needChart.cls ≠ "java/lang/invoke/MethodHandle" ∧ yX5_needChart.cls ≠ "java/lang/invoke/VarHandle" ∧ (parseMethodDescriptor yX5_needChart.desc).map (fun d => d.parameters.length) = some 1 := by decide +kernel
set_option maxRecDepth 20000 in
theorem in_X5_takeDown_X5 : ∀ w ∈ wsX50, w ∈ wsX5_takeDown := by decide +kernel
set_option maxRecDepth 20000 in
theorem fl_X5_takeDown_19 : Cond.fieldLink RX5 19 "PotLabels" "memory" "LPotLabels$Memory;" ∈ wsX5_takeDown := by decide +kernel
set_option maxRecDepth 20000 in
theorem fl_X5_takeDown_12 : Cond.fieldLink RX5 12 "PotLabels" "bureau" "LPotLabels$Bureau;" ∈ wsX5_takeDown := by decide +kernel
set_option maxRecDepth 20000 in
theorem kd_X0_readersOf : yX0_readersOf.cls = RX0 ∧ yX0_readersOf.cls ≠ "java/lang/invoke/MethodHandle" ∧ yX0_readersOf.cls ≠ "java/lang/invoke/VarHandle" ∧ (parseMethodDescriptor yX0_readersOf.desc).map (fun d => d.parameters.length) = some 1 := by decide +kernel
set_option maxRecDepth 20000 in
theorem kd_X0_removeChart : yX0_removeChart.cls = RX0 ∧ yX0_removeChart.cls ≠ "java/lang/invoke/MethodHandle" ∧ yX0_removeChart.cls ≠ "java/lang/invoke/VarHandle" ∧ (parseMethodDescriptor yX0_removeChart.desc).map (fun d => d.parameters.length) = some 1 := by decide +kernel
set_option maxRecDepth 20000 in
theorem in_X5_correct_X5 : ∀ w ∈ wsX50, w ∈ wsX5_correct := by decide +kernel
set_option maxRecDepth 20000 in
theorem fl_X5_correct_19 : Cond.fieldLink RX5 19 "PotLabels" "memory" "LPotLabels$Memory;" ∈ wsX5_correct := by decide +kernel
set_option maxRecDepth 20000 in
theorem fl_X5_correct_12 : Cond.fieldLink RX5 12 "PotLabels" "bureau" "LPotLabels$Bureau;" ∈ wsX5_correct := by decide +kernel
set_option maxRecDepth 20000 in
theorem kd_X0_makeReadable : yX0_makeReadable.cls = RX0 ∧ yX0_makeReadable.cls ≠ "java/lang/invoke/MethodHandle" ∧ yX0_makeReadable.cls ≠ "java/lang/invoke/VarHandle" ∧ (parseMethodDescriptor yX0_makeReadable.desc).map (fun d => d.parameters.length) = some 2 := by decide +kernel
set_option maxRecDepth 20000 in
theorem in_X5_append_X5 : ∀ w ∈ wsX50, w ∈ wsX5_append := by decide +kernel
set_option maxRecDepth 20000 in
theorem fl_X5_append_26 : Cond.fieldLink RX5 26 "PotLabels" "text" "LPotLabels$Text;" ∈ wsX5_append := by decide +kernel
set_option maxRecDepth 20000 in
theorem kd_X4_isFull : yX4_isFull.cls = RX4 ∧ yX4_isFull.cls ≠ "java/lang/invoke/MethodHandle" ∧ yX4_isFull.cls ≠ "java/lang/invoke/VarHandle" ∧ (parseMethodDescriptor yX4_isFull.desc).map (fun d => d.parameters.length) = some 0 := by decide +kernel
set_option maxRecDepth 20000 in
theorem kd_X4_add : yX4_add.cls = RX4 ∧ yX4_add.cls ≠ "java/lang/invoke/MethodHandle" ∧ yX4_add.cls ≠ "java/lang/invoke/VarHandle" ∧ (parseMethodDescriptor yX4_add.desc).map (fun d => d.parameters.length) = some 1 := by decide +kernel
set_option maxRecDepth 20000 in
theorem in_X5_append_X4 : ∀ w ∈ wsX40, w ∈ wsX5_append := by decide +kernel
set_option maxRecDepth 20000 in
theorem nl_X5_124 : Cond.fieldLinkNest "PotLabels" 124 "PotLabels$Text" "length" "I" "PotLabels" ∈ nestF := by decide +kernel
set_option maxRecDepth 20000 in
theorem in_X5_clearBuffer_X5 : ∀ w ∈ wsX50, w ∈ wsX5_clearBuffer := by decide +kernel
set_option maxRecDepth 20000 in
theorem fl_X5_clearBuffer_26 : Cond.fieldLink RX5 26 "PotLabels" "text" "LPotLabels$Text;" ∈ wsX5_clearBuffer := by decide +kernel
set_option maxRecDepth 20000 in
theorem in_X5_clearBuffer_X4 : ∀ w ∈ wsX40, w ∈ wsX5_clearBuffer := by decide +kernel
set_option maxRecDepth 20000 in
theorem kd_X4_clear : yX4_clear.cls = RX4 ∧ yX4_clear.cls ≠ "java/lang/invoke/MethodHandle" ∧ yX4_clear.cls ≠ "java/lang/invoke/VarHandle" ∧ (parseMethodDescriptor yX4_clear.desc).map (fun d => d.parameters.length) = some 0 := by decide +kernel
set_option maxRecDepth 20000 in
theorem in_X5_load_X5 : ∀ w ∈ wsX50, w ∈ wsX5_load := by decide +kernel
set_option maxRecDepth 20000 in
theorem fl_X5_load_26 : Cond.fieldLink RX5 26 "PotLabels" "text" "LPotLabels$Text;" ∈ wsX5_load := by decide +kernel
set_option maxRecDepth 20000 in
theorem kd_X4_tellsPots : yX4_tellsPots.cls = RX4 ∧ yX4_tellsPots.cls ≠ "java/lang/invoke/MethodHandle" ∧ yX4_tellsPots.cls ≠ "java/lang/invoke/VarHandle" ∧ (parseMethodDescriptor yX4_tellsPots.desc).map (fun d => d.parameters.length) = some 0 := by decide +kernel
set_option maxRecDepth 20000 in
theorem fl_X5_load_19 : Cond.fieldLink RX5 19 "PotLabels" "memory" "LPotLabels$Memory;" ∈ wsX5_load := by decide +kernel
set_option maxRecDepth 20000 in
theorem fl_X5_load_12 : Cond.fieldLink RX5 12 "PotLabels" "bureau" "LPotLabels$Bureau;" ∈ wsX5_load := by decide +kernel
set_option maxRecDepth 20000 in
theorem kd_X4_giveColours : yX4_giveColours.cls = RX4 ∧ yX4_giveColours.cls ≠ "java/lang/invoke/MethodHandle" ∧ yX4_giveColours.cls ≠ "java/lang/invoke/VarHandle" ∧ (parseMethodDescriptor yX4_giveColours.desc).map (fun d => d.parameters.length) = some 1 := by decide +kernel
set_option maxRecDepth 20000 in
theorem in_X5_load_X0 : ∀ w ∈ wsX00, w ∈ wsX5_load := by decide +kernel
set_option maxRecDepth 20000 in
theorem kd_X0_pairsTold : yX0_pairsTold.cls = RX0 ∧ yX0_pairsTold.cls ≠ "java/lang/invoke/MethodHandle" ∧ yX0_pairsTold.cls ≠ "java/lang/invoke/VarHandle" ∧ (parseMethodDescriptor yX0_pairsTold.desc).map (fun d => d.parameters.length) = some 2 := by decide +kernel
set_option maxRecDepth 20000 in
theorem kd_X0_labelled : yX0_labelled.cls = RX0 ∧ yX0_labelled.cls ≠ "java/lang/invoke/MethodHandle" ∧ yX0_labelled.cls ≠ "java/lang/invoke/VarHandle" ∧ (parseMethodDescriptor yX0_labelled.desc).map (fun d => d.parameters.length) = some 0 := by decide +kernel
set_option maxRecDepth 20000 in
theorem in_X5_undo_X5 : ∀ w ∈ wsX50, w ∈ wsX5_undo := by decide +kernel
set_option maxRecDepth 20000 in
theorem fl_X5_undo_19 : Cond.fieldLink RX5 19 "PotLabels" "memory" "LPotLabels$Memory;" ∈ wsX5_undo := by decide +kernel
set_option maxRecDepth 20000 in
theorem in_X5_undo_X3 : ∀ w ∈ wsX30, w ∈ wsX5_undo := by decide +kernel
set_option maxRecDepth 20000 in
theorem nl_X5_164 : Cond.fieldLinkNest "PotLabels" 164 "PotLabels$Memory" "held" "I" "PotLabels" ∈ nestF := by decide +kernel
set_option maxRecDepth 20000 in
theorem fl_X5_undo_12 : Cond.fieldLink RX5 12 "PotLabels" "bureau" "LPotLabels$Bureau;" ∈ wsX5_undo := by decide +kernel
set_option maxRecDepth 20000 in
theorem kd_X3_restore : yX3_restore.cls = RX3 ∧ yX3_restore.cls ≠ "java/lang/invoke/MethodHandle" ∧ yX3_restore.cls ≠ "java/lang/invoke/VarHandle" ∧ (parseMethodDescriptor yX3_restore.desc).map (fun d => d.parameters.length) = some 1 := by decide +kernel
set_option maxHeartbeats 4000000 in
set_option maxRecDepth 100000 in
theorem ct_needPot {l : Launch} {G : GG} {M : MM} {i : Nat} (hi : i < 8) : Ct l G yX5_needPot wsX5_needPot 1 ([.int (nI i)] : List Value) M (rV M) := by
  refine Ct.of (cc := cX5_needPot) (maxL := 1) (ret := none) (lv := [(0, .int (nI i))]) (by decide) rfl rfl (Nat.le_of_ble_eq_true rfl) ?_
  intro pg ev sg mm bl mt cd AZ C hret
  refine j_iload_n C dX5_needPot_0 rfl ?_
  refine j_if_ltN C dX5_needPot_1 (tgt := 10) (by decide) (by omega) (fun cq1 => absurd cq1 (by omega)) (fun cq1 => ?_)
  refine j_iload_n C dX5_needPot_4 rfl ?_
  refine j_bipush C dX5_needPot_5 (v := nI 8) (by decide) ?_
  refine j_icmp_ltN C dX5_needPot_7 (tgt := 21) (by decide) (by omega) (by omega) (fun cq7 => ?_) (fun cq7 => absurd cq7 (by omega))
  exact j_return C hret dX5_needPot_21 ⟨rfl, rfl⟩

set_option maxHeartbeats 4000000 in
set_option maxRecDepth 100000 in
theorem ct_needPainter {l : Launch} {G : GG} {M : MM} {i : Nat} (hi : i < 4) : Ct l G yX5_needPainter wsX5_needPainter 1 ([.int (nI i)] : List Value) M (rV M) := by
  refine Ct.of (cc := cX5_needPainter) (maxL := 1) (ret := none) (lv := [(0, .int (nI i))]) (by decide) rfl rfl (Nat.le_of_ble_eq_true rfl) ?_
  intro pg ev sg mm bl mt cd AZ C hret
  refine j_iload_n C dX5_needPainter_0 rfl ?_
  refine j_if_ltN C dX5_needPainter_1 (tgt := 9) (by decide) (by omega) (fun cq1 => absurd cq1 (by omega)) (fun cq1 => ?_)
  refine j_iload_n C dX5_needPainter_4 rfl ?_
  refine j_iconst C dX5_needPainter_5 (v := nI 4) (by decide) ?_
  refine j_icmp_ltN C dX5_needPainter_6 (tgt := 20) (by decide) (by omega) (by omega) (fun cq6 => ?_) (fun cq6 => absurd cq6 (by omega))
  exact j_return C hret dX5_needPainter_20 ⟨rfl, rfl⟩

set_option maxHeartbeats 4000000 in
set_option maxRecDepth 100000 in
theorem ct_needWithin {l : Launch} {G : GG} {M : MM} {a lo hi : Nat} (h1 : lo ≤ a) (h2 : a ≤ hi) (h3 : hi < 1000) : Ct l G yX5_needWithin wsX5_needWithin 1 ([.int (nI a), .int (nI lo), .int (nI hi)] : List Value) M (rV M) := by
  refine Ct.of (cc := cX5_needWithin) (maxL := 3) (ret := none) (lv := [(0, .int (nI a)), (1, .int (nI lo)), (2, .int (nI hi))]) (by decide) rfl rfl (Nat.le_of_ble_eq_true rfl) ?_
  intro pg ev sg mm bl mt cd AZ C hret
  refine j_iload_n C dX5_needWithin_0 rfl ?_
  refine j_iload_n C dX5_needWithin_1 rfl ?_
  refine j_icmp_ltN C dX5_needWithin_2 (tgt := 10) (by decide) (by omega) (by omega) (fun cq2 => absurd cq2 (by omega)) (fun cq2 => ?_)
  refine j_iload_n C dX5_needWithin_5 rfl ?_
  refine j_iload_n C dX5_needWithin_6 rfl ?_
  refine j_icmp_leN C dX5_needWithin_7 (tgt := 21) (by decide) (by omega) (by omega) (fun cq7 => ?_) (fun cq7 => absurd cq7 (by omega))
  exact j_return C hret dX5_needWithin_21 ⟨rfl, rfl⟩

theorem oI_lt {v : Nat} (h : v ≤ 8) : ¬ oI v < -1 := by
  have k : ∀ v, v < 9 → ¬ oI v < -1 := by decide +kernel
  exact k v (by omega)
theorem oI_le {v : Nat} (h : v ≤ 8) : oI v ≤ nI 7 := by
  have k : ∀ v, v < 9 → oI v ≤ nI 7 := by decide +kernel
  exact k v (by omega)

set_option maxHeartbeats 4000000 in
set_option maxRecDepth 100000 in
theorem ct_needLabel {l : Launch} {G : GG} {M : MM} {v : Nat} (hv : v ≤ 8) : Ct l G yX5_needWithin wsX5_needWithin 1 ([.int (oI v), .int (-1), .int (nI 7)] : List Value) M (rV M) := by
  refine Ct.of (cc := cX5_needWithin) (maxL := 3) (ret := none) (lv := [(0, .int (oI v)), (1, .int (-1)), (2, .int (nI 7))]) (by decide) rfl rfl (Nat.le_of_ble_eq_true rfl) ?_
  intro pg ev sg mm bl mt cd AZ C hret
  refine j_iload_n C dX5_needWithin_0 rfl ?_
  refine j_iload_n C dX5_needWithin_1 rfl ?_
  refine j_icmp_lt C dX5_needWithin_2 (tgt := 10) (by decide) (fun q => absurd q (oI_lt hv)) (fun _ => ?_)
  refine j_iload_n C dX5_needWithin_5 rfl ?_
  refine j_iload_n C dX5_needWithin_6 rfl ?_
  refine j_icmp_le C dX5_needWithin_7 (tgt := 21) (by decide) (fun _ => ?_) (fun q => absurd (oI_le hv) q)
  exact j_return C hret dX5_needWithin_21 ⟨rfl, rfl⟩

set_option maxHeartbeats 4000000 in
set_option maxRecDepth 100000 in
theorem ct_needUnlike {l : Launch} {G : GG} {M : MM} {a c : Nat} (ha : a < 8) (hc : c < 8) (hne : ¬ a = c) : Ct l G yX5_needUnlike wsX5_needUnlike 1 ([.int (nI a), .int (nI c)] : List Value) M (rV M) := by
  refine Ct.of (cc := cX5_needUnlike) (maxL := 2) (ret := none) (lv := [(0, .int (nI a)), (1, .int (nI c))]) (by decide) rfl rfl (Nat.le_of_ble_eq_true rfl) ?_
  intro pg ev sg mm bl mt cd AZ C hret
  refine j_iload_n C dX5_needUnlike_0 rfl ?_
  refine j_iload_n C dX5_needUnlike_1 rfl ?_
  refine j_icmp_neN C dX5_needUnlike_2 (tgt := 16) (by decide) (by omega) (by omega) (fun _ => ?_) (fun q => absurd q hne)
  exact j_return C hret dX5_needUnlike_16 ⟨rfl, rfl⟩

set_option maxHeartbeats 4000000 in
set_option maxRecDepth 100000 in
theorem ct_needChart {l : Launch} {G : GG} {M : MM} {S : SS} (hX : Xc M S) {ch : Nat} (hc : ch < S.1 44) (h44 : S.1 44 ≤ 6) : Ct l G yX5_needChart wsX5_needChart 1 ([.ref (G.2.2 72), .int (nI ch)] : List Value) M (rV M) := by
  have hB := hX.1
  refine Ct.of (cc := cX5_needChart) (maxL := 2) (ret := none) (lv := [(0, .ref (G.2.2 72)), (1, .int (nI ch))]) (by decide) rfl rfl (Nat.le_of_ble_eq_true rfl) ?_
  intro pg ev sg mm bl mt cd AZ C hret
  refine j_iload_n C dX5_needChart_0 rfl ?_
  refine j_if_ltN C dX5_needChart_1 (tgt := 15) (by decide) (by omega) (fun cq1 => absurd cq1 (by omega)) (fun cq1 => ?_)
  refine j_iload_n C dX5_needChart_4 rfl ?_
  refine j_aload_n C dX5_needChart_5 rfl ?_
  refine j_getf C dX5_needChart_6 rfl (by decide) (T := TX5) rfl in_X5_needChart_X5 (k := 0) (by decide) fl_X5_needChart_12 rfl rfl ?_
  refine j_getfN C dX5_needChart_9 (cell_B (b := 0) (by decide)) (by decide) (T := TX0) rfl in_X5_needChart_X0 (k := 7) (by decide) nl_X5_198 rfl rfl ?_
  refine j_top C (_) hB.2.2.2.2.2.2.2.1 ?_
  refine j_icmp_ltN C dX5_needChart_12 (tgt := 26) (by decide) (by omega) (by omega) (fun cq12 => ?_) (fun cq12 => absurd cq12 (by omega))
  exact j_return C hret dX5_needChart_26 ⟨rfl, rfl⟩

theorem inK_X : ∀ a, inK a → inX a := fun a h => by unfold inK at h; unfold inX; omega
theorem inB_X {b : Nat} (hb : b < 9) : ∀ a, inB b a → inX a := fun a h => by unfold inB at h; unfold inX; omega

set_option maxHeartbeats 4000000 in
set_option maxRecDepth 100000 in
theorem ct_mix {l : Launch} {G : GG} {M : MM} {S : SS} (hX : Xc M S) (hO : OkS S) {i k v : Nat} (hi : i < 8) (hk : k ≤ 2) (hv : v ≤ 9) : Ct l G yX5_mix wsX5_mix 4 ([.ref (G.2.2 72), .int (nI i), .int (nI k), .int (nI v)] : List Value) M (fun v9 M9 => v9 = some (.int (nI (pr3 k (S.1 (4 * i)) (S.1 (4 * i + 1)) (S.1 (4 * i + 2))))) ∧ Xc M9 (svW S (setp S.1 i k v)) ∧ Of M M9 inX) := by
  have hB := hX.1
  have hW := hO.1
  obtain ⟨q1, q2, q3, q4⟩ := hW.1 i hi
  refine Ct.of (cc := cX5_mix) (maxL := 5) (ret := (some .int)) (lv := [(0, .ref (G.2.2 72)), (1, .int (nI i)), (2, .int (nI k)), (3, .int (nI v))]) (by decide) rfl rfl (Nat.le_of_ble_eq_true rfl) ?_
  intro pg ev sg mm bl mt cd AZ C hret
  refine j_iload_n C dX5_mix_0 rfl ?_
  refine j_callS C (ct_needPot (by omega)) dX5_mix_1 gX5_mix_X5_needPot rfl ks_X5_needPot rfl rfl (Nat.le_of_ble_eq_true rfl) ⟨by decide, by decide⟩ ⟨Nat.zero_le _, Nat.zero_le _⟩ (k_V ?_)
  refine j_iload_n C dX5_mix_4 rfl ?_
  refine j_iconst C dX5_mix_5 (v := nI 0) (by decide) ?_
  refine j_iconst C dX5_mix_6 (v := nI 2) (by decide) ?_
  refine j_callS C (ct_needWithin (by omega) (by omega) (by omega)) dX5_mix_7 gX5_mix_X5_needWithin rfl ks_X5_needWithin rfl rfl (Nat.le_of_ble_eq_true rfl) ⟨by decide, by decide⟩ ⟨Nat.zero_le _, Nat.zero_le _⟩ (k_V ?_)
  refine j_iload_n C dX5_mix_10 rfl ?_
  refine j_iconst C dX5_mix_11 (v := nI 0) (by decide) ?_
  refine j_bipush C dX5_mix_12 (v := nI 9) (by decide) ?_
  refine j_callS C (ct_needWithin (by omega) (by omega) (by omega)) dX5_mix_14 gX5_mix_X5_needWithin rfl ks_X5_needWithin rfl rfl (Nat.le_of_ble_eq_true rfl) ⟨by decide, by decide⟩ ⟨Nat.zero_le _, Nat.zero_le _⟩ (k_V ?_)
  refine j_aload_n C dX5_mix_17 rfl ?_
  refine j_getf C dX5_mix_18 rfl (by decide) (T := TX5) rfl in_X5_mix_X5 (k := 1) (by decide) fl_X5_mix_19 rfl rfl ?_
  refine j_aload_n C dX5_mix_21 rfl ?_
  refine j_getf C dX5_mix_22 rfl (by decide) (T := TX5) rfl in_X5_mix_X5 (k := 0) (by decide) fl_X5_mix_12 rfl rfl ?_
  refine j_callV C (ct_save hX.2.1 hX.1) dX5_mix_25 rfl (by decide) (T := TX3) rfl gX5_mix_X3_save rfl kd_X3_save rfl rfl (Nat.le_of_ble_eq_true rfl) ⟨by decide, by decide⟩ ⟨Nat.zero_le _, Nat.zero_le _⟩ (k_VQ fun M3 hq => ?_)
  obtain ⟨hm, ho⟩ := hq
  have hX3 := hX.save hm ho
  have hB3 : Bu M3 0 S.1 := hX3.1
  refine j_aload_n C dX5_mix_28 rfl ?_
  refine j_getf C dX5_mix_29 rfl (by decide) (T := TX5) rfl in_X5_mix_X5 (k := 0) (by decide) fl_X5_mix_12 rfl rfl ?_
  refine j_getfN C dX5_mix_32 (cell_B (b := 0) (by decide)) (by decide) (T := TX0) rfl in_X5_mix_X0 (k := 0) (by decide) nl_X5_49 rfl rfl ?_
  refine j_iload_n C dX5_mix_35 rfl ?_
  refine j_ialdN C dX5_mix_36 (show ilen 1 = some 8 from rfl) (by omega) (by decide) ?_
  refine j_top C _ (hB3.1 _ (by omega)) ?_
  refine j_iload_n C dX5_mix_37 rfl ?_
  refine j_callS C (ct_partOf q1 q2 q3 hk) dX5_mix_38 gX5_mix_X1_partOf rfl ks_X1_partOf rfl rfl (Nat.le_of_ble_eq_true rfl) ⟨by decide, by decide⟩ ⟨Nat.zero_le _, Nat.zero_le _⟩ (k_I ?_)
  refine j_istore C dX5_mix_41 (by decide) ?_
  refine j_aload_n C dX5_mix_43 rfl ?_
  refine j_getf C dX5_mix_44 rfl (by decide) (T := TX5) rfl in_X5_mix_X5 (k := 0) (by decide) fl_X5_mix_12 rfl rfl ?_
  refine j_getfN C dX5_mix_47 (cell_B (b := 0) (by decide)) (by decide) (T := TX0) rfl in_X5_mix_X0 (k := 0) (by decide) nl_X5_49 rfl rfl ?_
  refine j_iload_n C dX5_mix_50 rfl ?_
  refine j_aload_n C dX5_mix_51 rfl ?_
  refine j_getf C dX5_mix_52 rfl (by decide) (T := TX5) rfl in_X5_mix_X5 (k := 0) (by decide) fl_X5_mix_12 rfl rfl ?_
  refine j_getfN C dX5_mix_55 (cell_B (b := 0) (by decide)) (by decide) (T := TX0) rfl in_X5_mix_X0 (k := 0) (by decide) nl_X5_49 rfl rfl ?_
  refine j_iload_n C dX5_mix_58 rfl ?_
  refine j_ialdN C dX5_mix_59 (show ilen 1 = some 8 from rfl) (by omega) (by decide) ?_
  refine j_top C _ (hB3.1 _ (by omega)) ?_
  refine j_iload_n C dX5_mix_60 rfl ?_
  refine j_iload_n C dX5_mix_61 rfl ?_
  refine j_callS C (ct_withPart q1 q2 q3 hv hk) dX5_mix_62 gX5_mix_X1_withPart rfl ks_X1_withPart rfl rfl (Nat.le_of_ble_eq_true rfl) ⟨by decide, by decide⟩ ⟨Nat.zero_le _, Nat.zero_le _⟩ (k_I ?_)
  refine j_iastN C dX5_mix_65 (show ilen 1 = some 8 from rfl) (by omega) (by decide) ?_
  refine j_iload C dX5_mix_66 rfl ?_
  exact j_ireturn C hret dX5_mix_68 ⟨rfl, hX3.cur (Bu_part (b := 0) hi hk hB3) (Off.R (by unfold inB; omega)), (ho.mono inK_X).tr (Off.of (Off.R (by unfold inX; omega)))⟩

set_option maxHeartbeats 4000000 in
set_option maxRecDepth 100000 in
theorem ct_painter_0 {l : Launch} {G : GG} {M : MM} {S : SS} (hX : Xc M S) (hO : OkS S) {p v : Nat} (hp : p < 4) (hv : v ≤ 3) : Ct l G yX5_painter wsX5_painter 3 ([.ref (G.2.2 72), .int (nI p), .int (nI 0), .int (nI v)] : List Value) M (fun v9 M9 => v9 = some (.int (nI (S.1 (32 + 3 * p)))) ∧ Xc M9 (svW S (upS S.1 (32 + 3 * p) v)) ∧ Of M M9 inX) := by
  have hB := hX.1
  have hW := hO.1
  refine Ct.of (cc := cX5_painter) (maxL := 6) (ret := (some .int)) (lv := [(0, .ref (G.2.2 72)), (1, .int (nI p)), (2, .int (nI 0)), (3, .int (nI v))]) (by decide) rfl rfl (Nat.le_of_ble_eq_true rfl) ?_
  intro pg ev sg mm bl mt cd AZ C hret
  refine j_iload_n C dX5_painter_0 rfl ?_
  refine j_callS C (ct_needPainter (by omega)) dX5_painter_1 gX5_painter_X5_needPainter rfl ks_X5_needPainter rfl rfl (Nat.le_of_ble_eq_true rfl) ⟨by decide, by decide⟩ ⟨Nat.zero_le _, Nat.zero_le _⟩ (k_V ?_)
  refine j_iload_n C dX5_painter_4 rfl ?_
  refine j_iconst C dX5_painter_5 (v := nI 0) (by decide) ?_
  refine j_iconst C dX5_painter_6 (v := nI 1) (by decide) ?_
  refine j_callS C (ct_needWithin (by omega) (by omega) (by omega)) dX5_painter_7 gX5_painter_X5_needWithin rfl ks_X5_needWithin rfl rfl (Nat.le_of_ble_eq_true rfl) ⟨by decide, by decide⟩ ⟨Nat.zero_le _, Nat.zero_le _⟩ (k_V ?_)
  refine j_iload_n C dX5_painter_10 rfl ?_
  refine j_iconst C dX5_painter_11 (v := nI 0) (by decide) ?_
  refine j_iload_n C dX5_painter_12 rfl ?_
  refine j_if_neN C dX5_painter_13 (tgt := 20) (by decide) (by omega) (fun cq13 => absurd cq13 (by decide)) (fun cq13 => ?_)
  refine j_iconst C dX5_painter_16 (v := nI 3) (by decide) ?_
  refine j_goto C dX5_painter_17 (tgt := 22) (by decide) ?_
  refine j_callS C (ct_needWithin (by omega) (by omega) (by omega)) dX5_painter_22 gX5_painter_X5_needWithin rfl ks_X5_needWithin rfl rfl (Nat.le_of_ble_eq_true rfl) ⟨by decide, by decide⟩ ⟨Nat.zero_le _, Nat.zero_le _⟩ (k_V ?_)
  refine j_aload_n C dX5_painter_25 rfl ?_
  refine j_getf C dX5_painter_26 rfl (by decide) (T := TX5) rfl in_X5_painter_X5 (k := 1) (by decide) fl_X5_painter_19 rfl rfl ?_
  refine j_aload_n C dX5_painter_29 rfl ?_
  refine j_getf C dX5_painter_30 rfl (by decide) (T := TX5) rfl in_X5_painter_X5 (k := 0) (by decide) fl_X5_painter_12 rfl rfl ?_
  refine j_callV C (ct_save hX.2.1 hX.1) dX5_painter_33 rfl (by decide) (T := TX3) rfl gX5_painter_X3_save rfl kd_X3_save rfl rfl (Nat.le_of_ble_eq_true rfl) ⟨by decide, by decide⟩ ⟨Nat.zero_le _, Nat.zero_le _⟩ (k_VQ fun M3 hq => ?_)
  obtain ⟨hm, ho⟩ := hq
  have hX3 := hX.save hm ho
  have hB3 : Bu M3 0 S.1 := hX3.1
  refine j_iload_n C dX5_painter_36 rfl ?_
  refine j_if_neN C dX5_painter_37 (tgt := 50) (by decide) (by omega) (fun cq37 => absurd cq37 (by decide)) (fun cq37 => ?_)
  refine j_aload_n C dX5_painter_40 rfl ?_
  refine j_getf C dX5_painter_41 rfl (by decide) (T := TX5) rfl in_X5_painter_X5 (k := 0) (by decide) fl_X5_painter_12 rfl rfl ?_
  refine j_getfN C dX5_painter_44 (cell_B (b := 0) (by decide)) (by decide) (T := TX0) rfl in_X5_painter_X0 (k := 2) (by decide) nl_X5_66 rfl rfl ?_
  refine j_goto C dX5_painter_47 (tgt := 57) (by decide) ?_
  refine j_astore C dX5_painter_57 (by decide) ?_
  refine j_aload C dX5_painter_59 rfl ?_
  refine j_iload_n C dX5_painter_61 rfl ?_
  refine j_ialdN C dX5_painter_62 (show ilen 3 = some 4 from rfl) (by omega) (by decide) ?_
  refine j_top C _ (hB3.2.2.1 _ (by omega)) ?_
  refine j_istore C dX5_painter_63 (by decide) ?_
  refine j_aload C dX5_painter_65 rfl ?_
  refine j_iload_n C dX5_painter_67 rfl ?_
  refine j_iload_n C dX5_painter_68 rfl ?_
  refine j_iastN C dX5_painter_69 (show ilen 3 = some 4 from rfl) (by omega) (by decide) ?_
  refine j_iload C dX5_painter_70 rfl ?_
  exact j_ireturn C hret dX5_painter_72 ⟨rfl, hX3.cur (Bu_kin (b := 0) hp hB3) (Off.R (by unfold inB; omega)), (ho.mono inK_X).tr (Off.of (Off.R (by unfold inX; omega)))⟩

set_option maxHeartbeats 4000000 in
set_option maxRecDepth 100000 in
theorem ct_painter_1 {l : Launch} {G : GG} {M : MM} {S : SS} (hX : Xc M S) (hO : OkS S) {p v : Nat} (hp : p < 4) (hv : v ≤ 27) : Ct l G yX5_painter wsX5_painter 3 ([.ref (G.2.2 72), .int (nI p), .int (nI 1), .int (nI v)] : List Value) M (fun v9 M9 => v9 = some (.int (nI (S.1 (33 + 3 * p)))) ∧ Xc M9 (svW S (upS S.1 (33 + 3 * p) v)) ∧ Of M M9 inX) := by
  have hB := hX.1
  have hW := hO.1
  refine Ct.of (cc := cX5_painter) (maxL := 6) (ret := (some .int)) (lv := [(0, .ref (G.2.2 72)), (1, .int (nI p)), (2, .int (nI 1)), (3, .int (nI v))]) (by decide) rfl rfl (Nat.le_of_ble_eq_true rfl) ?_
  intro pg ev sg mm bl mt cd AZ C hret
  refine j_iload_n C dX5_painter_0 rfl ?_
  refine j_callS C (ct_needPainter (by omega)) dX5_painter_1 gX5_painter_X5_needPainter rfl ks_X5_needPainter rfl rfl (Nat.le_of_ble_eq_true rfl) ⟨by decide, by decide⟩ ⟨Nat.zero_le _, Nat.zero_le _⟩ (k_V ?_)
  refine j_iload_n C dX5_painter_4 rfl ?_
  refine j_iconst C dX5_painter_5 (v := nI 0) (by decide) ?_
  refine j_iconst C dX5_painter_6 (v := nI 1) (by decide) ?_
  refine j_callS C (ct_needWithin (by omega) (by omega) (by omega)) dX5_painter_7 gX5_painter_X5_needWithin rfl ks_X5_needWithin rfl rfl (Nat.le_of_ble_eq_true rfl) ⟨by decide, by decide⟩ ⟨Nat.zero_le _, Nat.zero_le _⟩ (k_V ?_)
  refine j_iload_n C dX5_painter_10 rfl ?_
  refine j_iconst C dX5_painter_11 (v := nI 0) (by decide) ?_
  refine j_iload_n C dX5_painter_12 rfl ?_
  refine j_if_neN C dX5_painter_13 (tgt := 20) (by decide) (by omega) (fun cq13 => ?_) (fun cq13 => absurd cq13 (by decide))
  refine j_bipush C dX5_painter_20 (v := nI 27) (by decide) ?_
  refine j_callS C (ct_needWithin (by omega) (by omega) (by omega)) dX5_painter_22 gX5_painter_X5_needWithin rfl ks_X5_needWithin rfl rfl (Nat.le_of_ble_eq_true rfl) ⟨by decide, by decide⟩ ⟨Nat.zero_le _, Nat.zero_le _⟩ (k_V ?_)
  refine j_aload_n C dX5_painter_25 rfl ?_
  refine j_getf C dX5_painter_26 rfl (by decide) (T := TX5) rfl in_X5_painter_X5 (k := 1) (by decide) fl_X5_painter_19 rfl rfl ?_
  refine j_aload_n C dX5_painter_29 rfl ?_
  refine j_getf C dX5_painter_30 rfl (by decide) (T := TX5) rfl in_X5_painter_X5 (k := 0) (by decide) fl_X5_painter_12 rfl rfl ?_
  refine j_callV C (ct_save hX.2.1 hX.1) dX5_painter_33 rfl (by decide) (T := TX3) rfl gX5_painter_X3_save rfl kd_X3_save rfl rfl (Nat.le_of_ble_eq_true rfl) ⟨by decide, by decide⟩ ⟨Nat.zero_le _, Nat.zero_le _⟩ (k_VQ fun M3 hq => ?_)
  obtain ⟨hm, ho⟩ := hq
  have hX3 := hX.save hm ho
  have hB3 : Bu M3 0 S.1 := hX3.1
  refine j_iload_n C dX5_painter_36 rfl ?_
  refine j_if_neN C dX5_painter_37 (tgt := 50) (by decide) (by omega) (fun cq37 => ?_) (fun cq37 => absurd cq37 (by decide))
  refine j_aload_n C dX5_painter_50 rfl ?_
  refine j_getf C dX5_painter_51 rfl (by decide) (T := TX5) rfl in_X5_painter_X5 (k := 0) (by decide) fl_X5_painter_12 rfl rfl ?_
  refine j_getfN C dX5_painter_54 (cell_B (b := 0) (by decide)) (by decide) (T := TX0) rfl in_X5_painter_X0 (k := 3) (by decide) nl_X5_69 rfl rfl ?_
  refine j_astore C dX5_painter_57 (by decide) ?_
  refine j_aload C dX5_painter_59 rfl ?_
  refine j_iload_n C dX5_painter_61 rfl ?_
  refine j_ialdN C dX5_painter_62 (show ilen 4 = some 4 from rfl) (by omega) (by decide) ?_
  refine j_top C _ (hB3.2.2.2.1 _ (by omega)) ?_
  refine j_istore C dX5_painter_63 (by decide) ?_
  refine j_aload C dX5_painter_65 rfl ?_
  refine j_iload_n C dX5_painter_67 rfl ?_
  refine j_iload_n C dX5_painter_68 rfl ?_
  refine j_iastN C dX5_painter_69 (show ilen 4 = some 4 from rfl) (by omega) (by decide) ?_
  refine j_iload C dX5_painter_70 rfl ?_
  exact j_ireturn C hret dX5_painter_72 ⟨rfl, hX3.cur (Bu_shp (b := 0) hp hB3) (Off.R (by unfold inB; omega)), (ho.mono inK_X).tr (Off.of (Off.R (by unfold inX; omega)))⟩

set_option maxHeartbeats 4000000 in
set_option maxRecDepth 100000 in
theorem ct_borrow {l : Launch} {G : GG} {M : MM} {S : SS} (hX : Xc M S) (hO : OkS S) {p q : Nat} (hp : p < 4) (hq : q < 4) : Ct l G yX5_borrow wsX5_borrow 3 ([.ref (G.2.2 72), .int (nI p), .int (nI q)] : List Value) M (fun v9 M9 => v9 = some (.int (oI (S.1 (34 + 3 * p)))) ∧ Xc M9 (svW S (upS S.1 (34 + 3 * p) (brw p q))) ∧ Of M M9 inX) := by
  have hB := hX.1
  have hW := hO.1
  refine Ct.of (cc := cX5_borrow) (maxL := 4) (ret := (some .int)) (lv := [(0, .ref (G.2.2 72)), (1, .int (nI p)), (2, .int (nI q))]) (by decide) rfl rfl (Nat.le_of_ble_eq_true rfl) ?_
  intro pg ev sg mm bl mt cd AZ C hret
  refine j_iload_n C dX5_borrow_0 rfl ?_
  refine j_callS C (ct_needPainter (by omega)) dX5_borrow_1 gX5_borrow_X5_needPainter rfl ks_X5_needPainter rfl rfl (Nat.le_of_ble_eq_true rfl) ⟨by decide, by decide⟩ ⟨Nat.zero_le _, Nat.zero_le _⟩ (k_V ?_)
  refine j_iload_n C dX5_borrow_4 rfl ?_
  refine j_callS C (ct_needPainter (by omega)) dX5_borrow_5 gX5_borrow_X5_needPainter rfl ks_X5_needPainter rfl rfl (Nat.le_of_ble_eq_true rfl) ⟨by decide, by decide⟩ ⟨Nat.zero_le _, Nat.zero_le _⟩ (k_V ?_)
  refine j_aload_n C dX5_borrow_8 rfl ?_
  refine j_getf C dX5_borrow_9 rfl (by decide) (T := TX5) rfl in_X5_borrow_X5 (k := 1) (by decide) fl_X5_borrow_19 rfl rfl ?_
  refine j_aload_n C dX5_borrow_12 rfl ?_
  refine j_getf C dX5_borrow_13 rfl (by decide) (T := TX5) rfl in_X5_borrow_X5 (k := 0) (by decide) fl_X5_borrow_12 rfl rfl ?_
  refine j_callV C (ct_save hX.2.1 hX.1) dX5_borrow_16 rfl (by decide) (T := TX3) rfl gX5_borrow_X3_save rfl kd_X3_save rfl rfl (Nat.le_of_ble_eq_true rfl) ⟨by decide, by decide⟩ ⟨Nat.zero_le _, Nat.zero_le _⟩ (k_VQ fun M3 hq => ?_)
  obtain ⟨hm, ho⟩ := hq
  have hX3 := hX.save hm ho
  have hB3 : Bu M3 0 S.1 := hX3.1
  refine j_aload_n C dX5_borrow_19 rfl ?_
  refine j_getf C dX5_borrow_20 rfl (by decide) (T := TX5) rfl in_X5_borrow_X5 (k := 0) (by decide) fl_X5_borrow_12 rfl rfl ?_
  refine j_getfN C dX5_borrow_23 (cell_B (b := 0) (by decide)) (by decide) (T := TX0) rfl in_X5_borrow_X0 (k := 4) (by decide) nl_X5_72 rfl rfl ?_
  refine j_iload_n C dX5_borrow_26 rfl ?_
  refine j_ialdN C dX5_borrow_27 (show ilen 5 = some 4 from rfl) (by omega) (by decide) ?_
  refine j_top C _ (hB3.2.2.2.2.1 _ (by omega)) ?_
  refine j_istore_n C dX5_borrow_28 (by decide) ?_
  refine j_aload_n C dX5_borrow_29 rfl ?_
  refine j_getf C dX5_borrow_30 rfl (by decide) (T := TX5) rfl in_X5_borrow_X5 (k := 0) (by decide) fl_X5_borrow_12 rfl rfl ?_
  refine j_getfN C dX5_borrow_33 (cell_B (b := 0) (by decide)) (by decide) (T := TX0) rfl in_X5_borrow_X0 (k := 4) (by decide) nl_X5_72 rfl rfl ?_
  refine j_iload_n C dX5_borrow_36 rfl ?_
  refine j_iload_n C dX5_borrow_37 rfl ?_
  refine j_iload_n C dX5_borrow_38 rfl ?_
  refine j_icmp_neN C dX5_borrow_39 (tgt := 46) (by decide) (by omega) (by omega) (fun cq39 => ?_) (fun cq39 => ?_)
  · refine j_iload_n C dX5_borrow_46 rfl ?_
    refine j_top C (oI (brw p q)) (by unfold brw; rw [if_neg (by omega)]; rfl) ?_
    refine j_iastN C dX5_borrow_47 (show ilen 5 = some 4 from rfl) (by omega) (by decide) ?_
    refine j_iload_n C dX5_borrow_48 rfl ?_
    exact j_ireturn C hret dX5_borrow_49 ⟨rfl, hX3.cur (Bu_len (b := 0) hp hB3) (Off.R (by unfold inB; omega)), (ho.mono inK_X).tr (Off.of (Off.R (by unfold inX; omega)))⟩
  · refine j_iconst C dX5_borrow_42 (v := -1) (by decide) ?_
    refine j_top C (oI (brw p q)) (by unfold brw; rw [if_pos (by omega)]; rfl) ?_
    refine j_goto C dX5_borrow_43 (tgt := 47) (by decide) ?_
    refine j_iastN C dX5_borrow_47 (show ilen 5 = some 4 from rfl) (by omega) (by decide) ?_
    refine j_iload_n C dX5_borrow_48 rfl ?_
    exact j_ireturn C hret dX5_borrow_49 ⟨rfl, hX3.cur (Bu_len (b := 0) hp hB3) (Off.R (by unfold inB; omega)), (ho.mono inK_X).tr (Off.of (Off.R (by unfold inX; omega)))⟩

set_option maxHeartbeats 4000000 in
set_option maxRecDepth 100000 in
theorem ct_label {l : Launch} {G : GG} {M : MM} {S : SS} (hX : Xc M S) (hO : OkS S) {i v : Nat} (hi : i < 8) (hv : v ≤ 8) : Ct l G yX5_label wsX5_label 3 ([.ref (G.2.2 72), .int (nI i), .int (oI v)] : List Value) M (fun v9 M9 => v9 = some (.int (oI (S.1 (4 * i + 3)))) ∧ Xc M9 (svW S (upS S.1 (4 * i + 3) v)) ∧ Of M M9 inX) := by
  have hB := hX.1
  have hW := hO.1
  refine Ct.of (cc := cX5_label) (maxL := 4) (ret := (some .int)) (lv := [(0, .ref (G.2.2 72)), (1, .int (nI i)), (2, .int (oI v))]) (by decide) rfl rfl (Nat.le_of_ble_eq_true rfl) ?_
  intro pg ev sg mm bl mt cd AZ C hret
  refine j_iload_n C dX5_label_0 rfl ?_
  refine j_callS C (ct_needPot (by omega)) dX5_label_1 gX5_label_X5_needPot rfl ks_X5_needPot rfl rfl (Nat.le_of_ble_eq_true rfl) ⟨by decide, by decide⟩ ⟨Nat.zero_le _, Nat.zero_le _⟩ (k_V ?_)
  refine j_iload_n C dX5_label_4 rfl ?_
  refine j_iconst C dX5_label_5 (v := -1) (by decide) ?_
  refine j_bipush C dX5_label_6 (v := nI 7) (by decide) ?_
  refine j_callS C (ct_needLabel hv) dX5_label_8 gX5_label_X5_needWithin rfl ks_X5_needWithin rfl rfl (Nat.le_of_ble_eq_true rfl) ⟨by decide, by decide⟩ ⟨Nat.zero_le _, Nat.zero_le _⟩ (k_V ?_)
  refine j_aload_n C dX5_label_11 rfl ?_
  refine j_getf C dX5_label_12 rfl (by decide) (T := TX5) rfl in_X5_label_X5 (k := 1) (by decide) fl_X5_label_19 rfl rfl ?_
  refine j_aload_n C dX5_label_15 rfl ?_
  refine j_getf C dX5_label_16 rfl (by decide) (T := TX5) rfl in_X5_label_X5 (k := 0) (by decide) fl_X5_label_12 rfl rfl ?_
  refine j_callV C (ct_save hX.2.1 hX.1) dX5_label_19 rfl (by decide) (T := TX3) rfl gX5_label_X3_save rfl kd_X3_save rfl rfl (Nat.le_of_ble_eq_true rfl) ⟨by decide, by decide⟩ ⟨Nat.zero_le _, Nat.zero_le _⟩ (k_VQ fun M3 hq => ?_)
  obtain ⟨hm, ho⟩ := hq
  have hX3 := hX.save hm ho
  have hB3 : Bu M3 0 S.1 := hX3.1
  refine j_aload_n C dX5_label_22 rfl ?_
  refine j_getf C dX5_label_23 rfl (by decide) (T := TX5) rfl in_X5_label_X5 (k := 0) (by decide) fl_X5_label_12 rfl rfl ?_
  refine j_getfN C dX5_label_26 (cell_B (b := 0) (by decide)) (by decide) (T := TX0) rfl in_X5_label_X0 (k := 1) (by decide) nl_X5_75 rfl rfl ?_
  refine j_iload_n C dX5_label_29 rfl ?_
  refine j_ialdN C dX5_label_30 (show ilen 2 = some 8 from rfl) (by omega) (by decide) ?_
  refine j_top C _ (hB3.2.1 _ (by omega)) ?_
  refine j_istore_n C dX5_label_31 (by decide) ?_
  refine j_aload_n C dX5_label_32 rfl ?_
  refine j_getf C dX5_label_33 rfl (by decide) (T := TX5) rfl in_X5_label_X5 (k := 0) (by decide) fl_X5_label_12 rfl rfl ?_
  refine j_getfN C dX5_label_36 (cell_B (b := 0) (by decide)) (by decide) (T := TX0) rfl in_X5_label_X0 (k := 1) (by decide) nl_X5_75 rfl rfl ?_
  refine j_iload_n C dX5_label_39 rfl ?_
  refine j_iload_n C dX5_label_40 rfl ?_
  refine j_iastN C dX5_label_41 (show ilen 2 = some 8 from rfl) (by omega) (by decide) ?_
  refine j_iload_n C dX5_label_42 rfl ?_
  exact j_ireturn C hret dX5_label_43 ⟨rfl, hX3.cur (Bu_lab (b := 0) hi hB3) (Off.R (by unfold inB; omega)), (ho.mono inK_X).tr (Off.of (Off.R (by unfold inX; omega)))⟩

set_option maxHeartbeats 4000000 in
set_option maxRecDepth 100000 in
theorem ct_labelAll {l : Launch} {G : GG} {M : MM} {S : SS} (hX : Xc M S) (hO : OkS S) {p : Nat} (hp : p < 4) : Ct l G yX5_labelAll wsX5_labelAll 6 ([.ref (G.2.2 72), .int (nI p)] : List Value) M (fun v9 M9 => v9 = some (.int (nI (popc (lmask (lbS S.1 p 8))))) ∧ Xc M9 (svW S (lbS S.1 p 8)) ∧ Of M M9 inX) := by
  have hB := hX.1
  have hW := hO.1
  refine Ct.of (cc := cX5_labelAll) (maxL := 2) (ret := (some .int)) (lv := [(0, .ref (G.2.2 72)), (1, .int (nI p))]) (by decide) rfl rfl (Nat.le_of_ble_eq_true rfl) ?_
  intro pg ev sg mm bl mt cd AZ C hret
  refine j_iload_n C dX5_labelAll_0 rfl ?_
  refine j_callS C (ct_needPainter (by omega)) dX5_labelAll_1 gX5_labelAll_X5_needPainter rfl ks_X5_needPainter rfl rfl (Nat.le_of_ble_eq_true rfl) ⟨by decide, by decide⟩ ⟨Nat.zero_le _, Nat.zero_le _⟩ (k_V ?_)
  refine j_aload_n C dX5_labelAll_4 rfl ?_
  refine j_getf C dX5_labelAll_5 rfl (by decide) (T := TX5) rfl in_X5_labelAll_X5 (k := 1) (by decide) fl_X5_labelAll_19 rfl rfl ?_
  refine j_aload_n C dX5_labelAll_8 rfl ?_
  refine j_getf C dX5_labelAll_9 rfl (by decide) (T := TX5) rfl in_X5_labelAll_X5 (k := 0) (by decide) fl_X5_labelAll_12 rfl rfl ?_
  refine j_callV C (ct_save hX.2.1 hX.1) dX5_labelAll_12 rfl (by decide) (T := TX3) rfl gX5_labelAll_X3_save rfl kd_X3_save rfl rfl (Nat.le_of_ble_eq_true rfl) ⟨by decide, by decide⟩ ⟨Nat.zero_le _, Nat.zero_le _⟩ (k_VQ fun M3 hq => ?_)
  obtain ⟨hm, ho⟩ := hq
  have hX3 := hX.save hm ho
  have hB3 : Bu M3 0 S.1 := hX3.1
  refine j_aload_n C dX5_labelAll_15 rfl ?_
  refine j_getf C dX5_labelAll_16 rfl (by decide) (T := TX5) rfl in_X5_labelAll_X5 (k := 0) (by decide) fl_X5_labelAll_12 rfl rfl ?_
  refine j_iload_n C dX5_labelAll_19 rfl ?_
  refine j_callV C (ct_labelInOrder (b := 0) (by decide) hB3 hW (by omega)) dX5_labelAll_20 (cell_B (b := 0) (by decide)) (by decide) (T := TX0) rfl gX5_labelAll_X0_labelInOrder rfl kd_X0_labelInOrder rfl rfl (Nat.le_of_ble_eq_true rfl) ⟨by decide, by decide⟩ ⟨Nat.zero_le _, Nat.zero_le _⟩ (k_VQ fun M4 hq => ?_)
  obtain ⟨hB4, ho4⟩ := hq
  have hW4 := hW.lbS (p := p) (n := 8) (by decide)
  refine j_aload_n C dX5_labelAll_23 rfl ?_
  refine j_getf C dX5_labelAll_24 rfl (by decide) (T := TX5) rfl in_X5_labelAll_X5 (k := 0) (by decide) fl_X5_labelAll_12 rfl rfl ?_
  refine j_callV C (ct_unlikeLabels (b := 0) (by decide) hB4 hW4) dX5_labelAll_27 (cell_B (b := 0) (by decide)) (by decide) (T := TX0) rfl gX5_labelAll_X0_unlikeLabels rfl kd_X0_unlikeLabels rfl rfl (Nat.le_of_ble_eq_true rfl) ⟨by decide, by decide⟩ ⟨Nat.zero_le _, Nat.zero_le _⟩ (k_I ?_)
  exact j_ireturn C hret dX5_labelAll_30 ⟨rfl, hX3.cur hB4 ho4, (ho.mono inK_X).tr (ho4.of.mono (inB_X (by decide)))⟩

set_option maxHeartbeats 4000000 in
set_option maxRecDepth 100000 in
theorem ct_hang {l : Launch} {G : GG} {M : MM} {S : SS} (hX : Xc M S) (hO : OkS S) {i j : Nat} (hi : i < 8) (hj : j < 8) (hne : ¬ i = j) : Ct l G yX5_hang wsX5_hang 3 ([.ref (G.2.2 72), .int (nI i), .int (nI j)] : List Value) M (fun v9 M9 => v9 = some (.int (adR S.1)) ∧ Xc M9 (svW S (adS S.1 i j)) ∧ Of M M9 inX) := by
  have hB := hX.1
  have hW := hO.1
  refine Ct.of (cc := cX5_hang) (maxL := 3) (ret := (some .int)) (lv := [(0, .ref (G.2.2 72)), (1, .int (nI i)), (2, .int (nI j))]) (by decide) rfl rfl (Nat.le_of_ble_eq_true rfl) ?_
  intro pg ev sg mm bl mt cd AZ C hret
  refine j_iload_n C dX5_hang_0 rfl ?_
  refine j_callS C (ct_needPot (by omega)) dX5_hang_1 gX5_hang_X5_needPot rfl ks_X5_needPot rfl rfl (Nat.le_of_ble_eq_true rfl) ⟨by decide, by decide⟩ ⟨Nat.zero_le _, Nat.zero_le _⟩ (k_V ?_)
  refine j_iload_n C dX5_hang_4 rfl ?_
  refine j_callS C (ct_needPot (by omega)) dX5_hang_5 gX5_hang_X5_needPot rfl ks_X5_needPot rfl rfl (Nat.le_of_ble_eq_true rfl) ⟨by decide, by decide⟩ ⟨Nat.zero_le _, Nat.zero_le _⟩ (k_V ?_)
  refine j_iload_n C dX5_hang_8 rfl ?_
  refine j_iload_n C dX5_hang_9 rfl ?_
  refine j_callS C (ct_needUnlike hi hj hne) dX5_hang_10 gX5_hang_X5_needUnlike rfl ks_X5_needUnlike rfl rfl (Nat.le_of_ble_eq_true rfl) ⟨by decide, by decide⟩ ⟨Nat.zero_le _, Nat.zero_le _⟩ (k_V ?_)
  refine j_aload_n C dX5_hang_13 rfl ?_
  refine j_getf C dX5_hang_14 rfl (by decide) (T := TX5) rfl in_X5_hang_X5 (k := 1) (by decide) fl_X5_hang_19 rfl rfl ?_
  refine j_aload_n C dX5_hang_17 rfl ?_
  refine j_getf C dX5_hang_18 rfl (by decide) (T := TX5) rfl in_X5_hang_X5 (k := 0) (by decide) fl_X5_hang_12 rfl rfl ?_
  refine j_callV C (ct_save hX.2.1 hX.1) dX5_hang_21 rfl (by decide) (T := TX3) rfl gX5_hang_X3_save rfl kd_X3_save rfl rfl (Nat.le_of_ble_eq_true rfl) ⟨by decide, by decide⟩ ⟨Nat.zero_le _, Nat.zero_le _⟩ (k_VQ fun M3 hq => ?_)
  obtain ⟨hm, ho⟩ := hq
  have hX3 := hX.save hm ho
  have hB3 : Bu M3 0 S.1 := hX3.1
  refine j_aload_n C dX5_hang_24 rfl ?_
  refine j_getf C dX5_hang_25 rfl (by decide) (T := TX5) rfl in_X5_hang_X5 (k := 0) (by decide) fl_X5_hang_12 rfl rfl ?_
  refine j_iload_n C dX5_hang_28 rfl ?_
  refine j_iload_n C dX5_hang_29 rfl ?_
  refine j_callV C (ct_addChart (b := 0) (by decide) hB3 hW) dX5_hang_30 (cell_B (b := 0) (by decide)) (by decide) (T := TX0) rfl gX5_hang_X0_addChart rfl kd_X0_addChart rfl rfl (Nat.le_of_ble_eq_true rfl) ⟨by decide, by decide⟩ ⟨Nat.zero_le _, Nat.zero_le _⟩ (k_IQ fun M4 hq => ?_)
  obtain ⟨hB4, ho4⟩ := hq
  exact j_ireturn C hret dX5_hang_33 ⟨rfl, hX3.cur hB4 ho4, (ho.mono inK_X).tr (ho4.of.mono (inB_X (by decide)))⟩

set_option maxHeartbeats 4000000 in
set_option maxRecDepth 100000 in
theorem ct_takeDown {l : Launch} {G : GG} {M : MM} {S : SS} (hX : Xc M S) (hO : OkS S) {ch : Nat} (hc : ch < S.1 44) : Ct l G yX5_takeDown wsX5_takeDown 6 ([.ref (G.2.2 72), .int (nI ch)] : List Value) M (fun v9 M9 => v9 = some (.int (nI (popc (rdm S.1 ch)))) ∧ Xc M9 (svW S (rmS S.1 ch)) ∧ Of M M9 inX) := by
  have hB := hX.1
  have hW := hO.1
  have h44 := hW.2.2.1
  refine Ct.of (cc := cX5_takeDown) (maxL := 3) (ret := (some .int)) (lv := [(0, .ref (G.2.2 72)), (1, .int (nI ch))]) (by decide) rfl rfl (Nat.le_of_ble_eq_true rfl) ?_
  intro pg ev sg mm bl mt cd AZ C hret
  refine j_aload_n C dX5_takeDown_0 rfl ?_
  refine j_iload_n C dX5_takeDown_1 rfl ?_
  refine j_callV C (ct_needChart hX (by omega) (by omega)) dX5_takeDown_2 rfl (by decide) (T := TX5) rfl gX5_takeDown_X5_needChart rfl kd_X5_needChart rfl rfl (Nat.le_of_ble_eq_true rfl) ⟨by decide, by decide⟩ ⟨Nat.zero_le _, Nat.zero_le _⟩ (k_V ?_)
  refine j_aload_n C dX5_takeDown_5 rfl ?_
  refine j_getf C dX5_takeDown_6 rfl (by decide) (T := TX5) rfl in_X5_takeDown_X5 (k := 1) (by decide) fl_X5_takeDown_19 rfl rfl ?_
  refine j_aload_n C dX5_takeDown_9 rfl ?_
  refine j_getf C dX5_takeDown_10 rfl (by decide) (T := TX5) rfl in_X5_takeDown_X5 (k := 0) (by decide) fl_X5_takeDown_12 rfl rfl ?_
  refine j_callV C (ct_save hX.2.1 hX.1) dX5_takeDown_13 rfl (by decide) (T := TX3) rfl gX5_takeDown_X3_save rfl kd_X3_save rfl rfl (Nat.le_of_ble_eq_true rfl) ⟨by decide, by decide⟩ ⟨Nat.zero_le _, Nat.zero_le _⟩ (k_VQ fun M3 hq => ?_)
  obtain ⟨hm, ho⟩ := hq
  have hX3 := hX.save hm ho
  have hB3 : Bu M3 0 S.1 := hX3.1
  refine j_aload_n C dX5_takeDown_16 rfl ?_
  refine j_getf C dX5_takeDown_17 rfl (by decide) (T := TX5) rfl in_X5_takeDown_X5 (k := 0) (by decide) fl_X5_takeDown_12 rfl rfl ?_
  refine j_iload_n C dX5_takeDown_20 rfl ?_
  refine j_callV C (ct_readersOf (b := 0) (by decide) hB3 hW (by omega)) dX5_takeDown_21 (cell_B (b := 0) (by decide)) (by decide) (T := TX0) rfl gX5_takeDown_X0_readersOf rfl kd_X0_readersOf rfl rfl (Nat.le_of_ble_eq_true rfl) ⟨by decide, by decide⟩ ⟨Nat.zero_le _, Nat.zero_le _⟩ (k_I ?_)
  refine j_callS C (ct_bitCount (Nat.lt_trans tpm_lt (by decide))) dX5_takeDown_24 gX5_takeDown_J6_bitCount_0f7a4 rfl ks_J6_bitCount_0f7a4 rfl rfl (Nat.le_of_ble_eq_true rfl) ⟨by decide, by decide⟩ ⟨Nat.zero_le _, Nat.zero_le _⟩ (k_I ?_)
  refine j_istore_n C dX5_takeDown_27 (by decide) ?_
  refine j_aload_n C dX5_takeDown_28 rfl ?_
  refine j_getf C dX5_takeDown_29 rfl (by decide) (T := TX5) rfl in_X5_takeDown_X5 (k := 0) (by decide) fl_X5_takeDown_12 rfl rfl ?_
  refine j_iload_n C dX5_takeDown_32 rfl ?_
  refine j_callV C (ct_removeChart (b := 0) (by decide) hB3 hW hc) dX5_takeDown_33 (cell_B (b := 0) (by decide)) (by decide) (T := TX0) rfl gX5_takeDown_X0_removeChart rfl kd_X0_removeChart rfl rfl (Nat.le_of_ble_eq_true rfl) ⟨by decide, by decide⟩ ⟨Nat.zero_le _, Nat.zero_le _⟩ (k_VQ fun M4 hq => ?_)
  obtain ⟨hB4, ho4⟩ := hq
  refine j_iload_n C dX5_takeDown_36 rfl ?_
  exact j_ireturn C hret dX5_takeDown_37 ⟨rfl, hX3.cur hB4 ho4, (ho.mono inK_X).tr (ho4.of.mono (inB_X (by decide)))⟩

set_option maxHeartbeats 4000000 in
set_option maxRecDepth 100000 in
theorem ct_correct {l : Launch} {G : GG} {M : MM} {S : SS} (hX : Xc M S) (hO : OkS S) {ch p : Nat} {az : Nat × Nat} (hz : az = nst S.1 p (S.1 (45 + 2 * ch)) (S.1 (46 + 2 * ch)) 1000) (hc : ch < S.1 44) (hp : p < 4) : Ct l G yX5_correct wsX5_correct 6 ([.ref (G.2.2 72), .int (nI ch), .int (nI p)] : List Value) M (fun v9 M9 => v9 = some (.int (lsR az)) ∧ Xc M9 (svW S (mrG az S.1 ch)) ∧ Of M M9 inX) := by
  have hB := hX.1
  have hW := hO.1
  have h44 := hW.2.2.1
  refine Ct.of (cc := cX5_correct) (maxL := 3) (ret := (some .int)) (lv := [(0, .ref (G.2.2 72)), (1, .int (nI ch)), (2, .int (nI p))]) (by decide) rfl rfl (Nat.le_of_ble_eq_true rfl) ?_
  intro pg ev sg mm bl mt cd AZ C hret
  refine j_aload_n C dX5_correct_0 rfl ?_
  refine j_iload_n C dX5_correct_1 rfl ?_
  refine j_callV C (ct_needChart hX (by omega) (by omega)) dX5_correct_2 rfl (by decide) (T := TX5) rfl gX5_correct_X5_needChart rfl kd_X5_needChart rfl rfl (Nat.le_of_ble_eq_true rfl) ⟨by decide, by decide⟩ ⟨Nat.zero_le _, Nat.zero_le _⟩ (k_V ?_)
  refine j_iload_n C dX5_correct_5 rfl ?_
  refine j_callS C (ct_needPainter (by omega)) dX5_correct_6 gX5_correct_X5_needPainter rfl ks_X5_needPainter rfl rfl (Nat.le_of_ble_eq_true rfl) ⟨by decide, by decide⟩ ⟨Nat.zero_le _, Nat.zero_le _⟩ (k_V ?_)
  refine j_aload_n C dX5_correct_9 rfl ?_
  refine j_getf C dX5_correct_10 rfl (by decide) (T := TX5) rfl in_X5_correct_X5 (k := 1) (by decide) fl_X5_correct_19 rfl rfl ?_
  refine j_aload_n C dX5_correct_13 rfl ?_
  refine j_getf C dX5_correct_14 rfl (by decide) (T := TX5) rfl in_X5_correct_X5 (k := 0) (by decide) fl_X5_correct_12 rfl rfl ?_
  refine j_callV C (ct_save hX.2.1 hX.1) dX5_correct_17 rfl (by decide) (T := TX3) rfl gX5_correct_X3_save rfl kd_X3_save rfl rfl (Nat.le_of_ble_eq_true rfl) ⟨by decide, by decide⟩ ⟨Nat.zero_le _, Nat.zero_le _⟩ (k_VQ fun M3 hq => ?_)
  obtain ⟨hm, ho⟩ := hq
  have hX3 := hX.save hm ho
  have hB3 : Bu M3 0 S.1 := hX3.1
  refine j_aload_n C dX5_correct_20 rfl ?_
  refine j_getf C dX5_correct_21 rfl (by decide) (T := TX5) rfl in_X5_correct_X5 (k := 0) (by decide) fl_X5_correct_12 rfl rfl ?_
  refine j_iload_n C dX5_correct_24 rfl ?_
  refine j_iload_n C dX5_correct_25 rfl ?_
  refine j_callV C (ct_makeReadable (b := 0) (by decide) hB3 hW hz (by omega) hp) dX5_correct_26 (cell_B (b := 0) (by decide)) (by decide) (T := TX0) rfl gX5_correct_X0_makeReadable rfl kd_X0_makeReadable rfl rfl (Nat.le_of_ble_eq_true rfl) ⟨by decide, by decide⟩ ⟨Nat.zero_le _, Nat.zero_le _⟩ (k_IQ fun M4 hq => ?_)
  obtain ⟨hB4, ho4⟩ := hq
  exact j_ireturn C hret dX5_correct_29 ⟨rfl, hX3.cur hB4 ho4, (ho.mono inK_X).tr (ho4.of.mono (inB_X (by decide)))⟩

set_option maxHeartbeats 4000000 in
set_option maxRecDepth 100000 in
theorem ct_append {l : Launch} {G : GG} {M : MM} {S : SS} (hX : Xc M S) (hO : OkS S) {k : Nat} (h1 : 33 ≤ k) (h2 : k ≤ 126) (hn : S.2.2.2.2.2.1 < 60) : Ct l G yX5_append wsX5_append 2 ([.ref (G.2.2 72), .int (nI k)] : List Value) M (fun v9 M9 => v9 = some (.int (nI (S.2.2.2.2.2.1 + 1))) ∧ Xc M9 (st_text S k) ∧ Of M M9 inX) := by
  refine Ct.of (cc := cX5_append) (maxL := 2) (ret := (some .int)) (lv := [(0, .ref (G.2.2 72)), (1, .int (nI k))]) (by decide) rfl rfl (Nat.le_of_ble_eq_true rfl) ?_
  intro pg ev sg mm bl mt cd AZ C hret
  refine j_iload_n C dX5_append_0 rfl ?_
  refine j_bipush C dX5_append_1 (v := nI 33) (by decide) ?_
  refine j_bipush C dX5_append_3 (v := nI 126) (by decide) ?_
  refine j_callS C (ct_needWithin (by omega) (by omega) (by omega)) dX5_append_5 gX5_append_X5_needWithin rfl ks_X5_needWithin rfl rfl (Nat.le_of_ble_eq_true rfl) ⟨by decide, by decide⟩ ⟨Nat.zero_le _, Nat.zero_le _⟩ (k_V ?_)
  refine j_aload_n C dX5_append_8 rfl ?_
  refine j_getf C dX5_append_9 rfl (by decide) (T := TX5) rfl in_X5_append_X5 (k := 2) (by decide) fl_X5_append_26 rfl rfl ?_
  refine j_callV C (ct_isFull hX.2.2.2.2.1) dX5_append_12 rfl (by decide) (T := TX4) rfl gX5_append_X4_isFull rfl kd_X4_isFull rfl rfl (Nat.le_of_ble_eq_true rfl) ⟨by decide, by decide⟩ ⟨Nat.zero_le _, Nat.zero_le _⟩ (k_I ?_)
  refine j_if_eqB C dX5_append_15 (tgt := 28) (by decide) (fun _ => ?_) (fun q => absurd (of_decide_eq_true q) (Nat.not_le.mpr hn))
  refine j_aload_n C dX5_append_28 rfl ?_
  refine j_getf C dX5_append_29 rfl (by decide) (T := TX5) rfl in_X5_append_X5 (k := 2) (by decide) fl_X5_append_26 rfl rfl ?_
  refine j_iload_n C dX5_append_32 rfl ?_
  refine j_callV C (ct_add hX.2.2.2.2.1 hn) dX5_append_33 rfl (by decide) (T := TX4) rfl gX5_append_X4_add rfl kd_X4_add rfl rfl (Nat.le_of_ble_eq_true rfl) ⟨by decide, by decide⟩ ⟨Nat.zero_le _, Nat.zero_le _⟩ (k_V ?_)
  refine j_aload_n C dX5_append_36 rfl ?_
  refine j_getf C dX5_append_37 rfl (by decide) (T := TX5) rfl in_X5_append_X5 (k := 2) (by decide) fl_X5_append_26 rfl rfl ?_
  refine j_getfN C dX5_append_40 rfl (by decide) (T := TX4) rfl in_X5_append_X4 (k := 1) (by decide) nl_X5_124 rfl rfl ?_
  refine j_top C (_) setV_eq ?_
  exact j_ireturn C hret dX5_append_43 ⟨rfl, hX.text (Tx_add hX.2.2.2.2.1 hn ⟨h1, h2⟩) ((Off.R (Or.inr rfl)).tr (Off.V (Or.inl rfl))), Off.of ((Off.R (by unfold inX; omega)).tr (Off.V (by unfold inX; omega)))⟩

set_option maxHeartbeats 4000000 in
set_option maxRecDepth 100000 in
theorem ct_clearBuffer {l : Launch} {G : GG} {M : MM} {S : SS} (hX : Xc M S) (hO : OkS S)  : Ct l G yX5_clearBuffer wsX5_clearBuffer 2 ([.ref (G.2.2 72)] : List Value) M (fun v9 M9 => v9 = some (.int (nI S.2.2.2.2.2.1)) ∧ Xc M9 (setT S 0 S.2.2.2.2.2.2) ∧ Of M M9 inX) := by
  refine Ct.of (cc := cX5_clearBuffer) (maxL := 2) (ret := (some .int)) (lv := [(0, .ref (G.2.2 72))]) (by decide) rfl rfl (Nat.le_of_ble_eq_true rfl) ?_
  intro pg ev sg mm bl mt cd AZ C hret
  refine j_aload_n C dX5_clearBuffer_0 rfl ?_
  refine j_getf C dX5_clearBuffer_1 rfl (by decide) (T := TX5) rfl in_X5_clearBuffer_X5 (k := 2) (by decide) fl_X5_clearBuffer_26 rfl rfl ?_
  refine j_getfN C dX5_clearBuffer_4 rfl (by decide) (T := TX4) rfl in_X5_clearBuffer_X4 (k := 1) (by decide) nl_X5_124 rfl rfl ?_
  refine j_top C (_) hX.2.2.2.2.1.2.1 ?_
  refine j_istore_n C dX5_clearBuffer_7 (by decide) ?_
  refine j_aload_n C dX5_clearBuffer_8 rfl ?_
  refine j_getf C dX5_clearBuffer_9 rfl (by decide) (T := TX5) rfl in_X5_clearBuffer_X5 (k := 2) (by decide) fl_X5_clearBuffer_26 rfl rfl ?_
  refine j_callV C ct_clear dX5_clearBuffer_12 rfl (by decide) (T := TX4) rfl gX5_clearBuffer_X4_clear rfl kd_X4_clear rfl rfl (Nat.le_of_ble_eq_true rfl) ⟨by decide, by decide⟩ ⟨Nat.zero_le _, Nat.zero_le _⟩ (k_V ?_)
  refine j_iload_n C dX5_clearBuffer_15 rfl ?_
  exact j_ireturn C hret dX5_clearBuffer_16 ⟨rfl, hX.text (Tx_clear hX.2.2.2.2.1) (Off.V (Or.inl rfl)), Off.of (Off.V (by unfold inX; omega))⟩

set_option maxHeartbeats 4000000 in
set_option maxRecDepth 100000 in
theorem ct_load {l : Launch} {G : GG} {M : MM} {S : SS} (hX : Xc M S) (hO : OkS S) (ht : tpT S.2.2.2.2.2.1 S.2.2.2.2.2.2 = true) : Ct l G yX5_load wsX5_load 5 ([.ref (G.2.2 72)] : List Value) M (fun v9 M9 => v9 = some (.int (nI (pr (gvS S.1 S.2.2.2.2.2.2 (S.2.2.2.2.2.1 / 6 + 1)) 0))) ∧ Xc M9 (setT (svW S (gvS S.1 S.2.2.2.2.2.2 (S.2.2.2.2.2.1 / 6 + 1))) 0 S.2.2.2.2.2.2) ∧ Of M M9 inX) := by
  have hB := hX.1
  have hW := hO.1
  obtain ⟨h5, -⟩ := tpT_ok ht
  refine Ct.of (cc := cX5_load) (maxL := 1) (ret := (some .int)) (lv := [(0, .ref (G.2.2 72))]) (by decide) rfl rfl (Nat.le_of_ble_eq_true rfl) ?_
  intro pg ev sg mm bl mt cd AZ C hret
  refine j_aload_n C dX5_load_0 rfl ?_
  refine j_getf C dX5_load_1 rfl (by decide) (T := TX5) rfl in_X5_load_X5 (k := 2) (by decide) fl_X5_load_26 rfl rfl ?_
  refine j_callV C (ct_tellsPots hX.2.2.2.2.1) dX5_load_4 rfl (by decide) (T := TX4) rfl gX5_load_X4_tellsPots rfl kd_X4_tellsPots rfl rfl (Nat.le_of_ble_eq_true rfl) ⟨by decide, by decide⟩ ⟨Nat.zero_le _, Nat.zero_le _⟩ (k_I ?_)
  refine j_if_neB C dX5_load_7 (tgt := 20) (by decide) (fun _ => ?_) (fun q => absurd (ht.symm.trans q) (by decide))
  refine j_aload_n C dX5_load_20 rfl ?_
  refine j_getf C dX5_load_21 rfl (by decide) (T := TX5) rfl in_X5_load_X5 (k := 1) (by decide) fl_X5_load_19 rfl rfl ?_
  refine j_aload_n C dX5_load_24 rfl ?_
  refine j_getf C dX5_load_25 rfl (by decide) (T := TX5) rfl in_X5_load_X5 (k := 0) (by decide) fl_X5_load_12 rfl rfl ?_
  refine j_callV C (ct_save hX.2.1 hX.1) dX5_load_28 rfl (by decide) (T := TX3) rfl gX5_load_X3_save rfl kd_X3_save rfl rfl (Nat.le_of_ble_eq_true rfl) ⟨by decide, by decide⟩ ⟨Nat.zero_le _, Nat.zero_le _⟩ (k_VQ fun M3 hq => ?_)
  obtain ⟨hm, ho⟩ := hq
  have hX3 := hX.save hm ho
  have hB3 : Bu M3 0 S.1 := hX3.1
  refine j_aload_n C dX5_load_31 rfl ?_
  refine j_getf C dX5_load_32 rfl (by decide) (T := TX5) rfl in_X5_load_X5 (k := 2) (by decide) fl_X5_load_26 rfl rfl ?_
  refine j_aload_n C dX5_load_35 rfl ?_
  refine j_getf C dX5_load_36 rfl (by decide) (T := TX5) rfl in_X5_load_X5 (k := 0) (by decide) fl_X5_load_12 rfl rfl ?_
  refine j_callV C (ct_giveColours hX3.2.2.2.2.1 hB3 ht) dX5_load_39 rfl (by decide) (T := TX4) rfl gX5_load_X4_giveColours rfl kd_X4_giveColours rfl rfl (Nat.le_of_ble_eq_true rfl) ⟨by decide, by decide⟩ ⟨Nat.zero_le _, Nat.zero_le _⟩ (k_VQ fun M4 hq => ?_)
  obtain ⟨hB4, ho4⟩ := hq
  have hX4 := hX3.cur hB4 ho4
  have hW4 := hW.gvS ht (S.2.2.2.2.2.1 / 6 + 1) (by omega)
  refine j_aload_n C dX5_load_42 rfl ?_
  refine j_getf C dX5_load_43 rfl (by decide) (T := TX5) rfl in_X5_load_X5 (k := 2) (by decide) fl_X5_load_26 rfl rfl ?_
  refine j_callV C ct_clear dX5_load_46 rfl (by decide) (T := TX4) rfl gX5_load_X4_clear rfl kd_X4_clear rfl rfl (Nat.le_of_ble_eq_true rfl) ⟨by decide, by decide⟩ ⟨Nat.zero_le _, Nat.zero_le _⟩ (k_V ?_)
  have hX5 := hX4.text (Tx_clear hX4.2.2.2.2.1) (Off.V (Or.inl rfl))
  have hB5 := hX5.1
  refine j_aload_n C dX5_load_49 rfl ?_
  refine j_getf C dX5_load_50 rfl (by decide) (T := TX5) rfl in_X5_load_X5 (k := 0) (by decide) fl_X5_load_12 rfl rfl ?_
  refine j_iconst C dX5_load_53 (v := nI 0) (by decide) ?_
  refine j_aload_n C dX5_load_54 rfl ?_
  refine j_getf C dX5_load_55 rfl (by decide) (T := TX5) rfl in_X5_load_X5 (k := 0) (by decide) fl_X5_load_12 rfl rfl ?_
  refine j_getfN C dX5_load_58 (cell_B (b := 0) (by decide)) (by decide) (T := TX0) rfl in_X5_load_X0 (k := 4) (by decide) nl_X5_72 rfl rfl ?_
  refine j_iconst C dX5_load_61 (v := nI 0) (by decide) ?_
  refine j_ialdN C dX5_load_62 (show ilen 5 = some 4 from rfl) (by decide) (by decide) ?_
  refine j_top C _ (hB5.2.2.2.2.1 _ (by decide)) ?_
  refine j_callV C (ct_pairsTold (b := 0) (by decide) hB5 hW4 (by decide) (hW4.2.1 0 (by decide)).2.2) dX5_load_63 (cell_B (b := 0) (by decide)) (by decide) (T := TX0) rfl gX5_load_X0_pairsTold rfl kd_X0_pairsTold rfl rfl (Nat.le_of_ble_eq_true rfl) ⟨by decide, by decide⟩ ⟨Nat.zero_le _, Nat.zero_le _⟩ (k_I ?_)
  exact j_ireturn C hret dX5_load_66 ⟨rfl, hX5, ((ho.mono inK_X).tr (ho4.of.mono (inB_X (by decide)))).tr (Off.of (Off.V (by unfold inX; omega)))⟩

set_option maxHeartbeats 4000000 in
set_option maxRecDepth 100000 in
theorem ct_undo {l : Launch} {G : GG} {M : MM} {S : SS} (hX : Xc M S) (hO : OkS S) (h0 : 0 < S.2.1) : Ct l G yX5_undo wsX5_undo 3 ([.ref (G.2.2 72)] : List Value) M (fun v9 M9 => v9 = some (.int (nI (S.2.1 - 1))) ∧ Xc M9 (popS S) ∧ Of M M9 inX) := by
  refine Ct.of (cc := cX5_undo) (maxL := 1) (ret := (some .int)) (lv := [(0, .ref (G.2.2 72))]) (by decide) rfl rfl (Nat.le_of_ble_eq_true rfl) ?_
  intro pg ev sg mm bl mt cd AZ C hret
  refine j_aload_n C dX5_undo_0 rfl ?_
  refine j_getf C dX5_undo_1 rfl (by decide) (T := TX5) rfl in_X5_undo_X5 (k := 1) (by decide) fl_X5_undo_19 rfl rfl ?_
  refine j_getfN C dX5_undo_4 rfl (by decide) (T := TX3) rfl in_X5_undo_X3 (k := 3) (by decide) nl_X5_164 rfl rfl ?_
  refine j_top C (_) hX.2.1.2.1 ?_
  refine j_if_gtN C dX5_undo_7 (tgt := 20) (by decide) (by have := hX.2.1.1; omega) (fun _ => ?_) (fun q => absurd h0 (Nat.not_lt.mpr q))
  refine j_aload_n C dX5_undo_20 rfl ?_
  refine j_getf C dX5_undo_21 rfl (by decide) (T := TX5) rfl in_X5_undo_X5 (k := 1) (by decide) fl_X5_undo_19 rfl rfl ?_
  refine j_aload_n C dX5_undo_24 rfl ?_
  refine j_getf C dX5_undo_25 rfl (by decide) (T := TX5) rfl in_X5_undo_X5 (k := 0) (by decide) fl_X5_undo_12 rfl rfl ?_
  refine j_callV C (ct_restore h0 hX.2.1) dX5_undo_28 rfl (by decide) (T := TX3) rfl gX5_undo_X3_restore rfl kd_X3_restore rfl rfl (Nat.le_of_ble_eq_true rfl) ⟨by decide, by decide⟩ ⟨Nat.zero_le _, Nat.zero_le _⟩ (k_VQ fun M3 hq => ?_)
  obtain ⟨hm, hB3, ho⟩ := hq
  have hX3 := hX.pop hm hB3 ho
  refine j_aload_n C dX5_undo_31 rfl ?_
  refine j_getf C dX5_undo_32 rfl (by decide) (T := TX5) rfl in_X5_undo_X5 (k := 1) (by decide) fl_X5_undo_19 rfl rfl ?_
  refine j_getfN C dX5_undo_35 rfl (by decide) (T := TX3) rfl in_X5_undo_X3 (k := 3) (by decide) nl_X5_164 rfl rfl ?_
  refine j_top C (_) hm.2.1 ?_
  exact j_ireturn C hret dX5_undo_38 ⟨rfl, hX3, ho.mono (fun a ha => by unfold inB at ha; unfold inX; omega)⟩
