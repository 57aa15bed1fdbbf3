set_option maxRecDepth 20000 in
theorem in_X6_labelOf_X6 : ∀ w ∈ wsX60, w ∈ wsX6_labelOf := by decide +kernel
set_option maxRecDepth 20000 in
theorem fl_X6_labelOf_7 : Cond.fieldLink RX6 7 "PotLabelsModel" "s" "[I" ∈ wsX6_labelOf := by decide +kernel
set_option maxRecDepth 20000 in
theorem kd_X6_labelOf : yX6_labelOf.cls = RX6 ∧ yX6_labelOf.cls ≠ "java/lang/invoke/MethodHandle" ∧ yX6_labelOf.cls ≠ "java/lang/invoke/VarHandle" ∧ (parseMethodDescriptor yX6_labelOf.desc).map (fun d => d.parameters.length) = some 1 := by decide +kernel
set_option maxRecDepth 20000 in
theorem in_X6_figure_X6 : ∀ w ∈ wsX60, w ∈ wsX6_figure := by decide +kernel
set_option maxRecDepth 20000 in
theorem fl_X6_figure_7 : Cond.fieldLink RX6 7 "PotLabelsModel" "s" "[I" ∈ wsX6_figure := by decide +kernel
set_option maxRecDepth 20000 in
theorem in_X6_ground_X6 : ∀ w ∈ wsX60, w ∈ wsX6_ground := by decide +kernel
set_option maxRecDepth 20000 in
theorem fl_X6_ground_7 : Cond.fieldLink RX6 7 "PotLabelsModel" "s" "[I" ∈ wsX6_ground := by decide +kernel
set_option maxRecDepth 20000 in
theorem in_X6_isChart_X6 : ∀ w ∈ wsX60, w ∈ wsX6_isChart := by decide +kernel
set_option maxRecDepth 20000 in
theorem fl_X6_isChart_7 : Cond.fieldLink RX6 7 "PotLabelsModel" "s" "[I" ∈ wsX6_isChart := by decide +kernel
set_option maxRecDepth 20000 in
theorem kd_X6_figure : yX6_figure.cls = RX6 ∧ yX6_figure.cls ≠ "java/lang/invoke/MethodHandle" ∧ yX6_figure.cls ≠ "java/lang/invoke/VarHandle" ∧ (parseMethodDescriptor yX6_figure.desc).map (fun d => d.parameters.length) = some 1 := by decide +kernel
set_option maxRecDepth 20000 in
theorem kd_X6_ground : yX6_ground.cls = RX6 ∧ yX6_ground.cls ≠ "java/lang/invoke/MethodHandle" ∧ yX6_ground.cls ≠ "java/lang/invoke/VarHandle" ∧ (parseMethodDescriptor yX6_ground.desc).map (fun d => d.parameters.length) = some 1 := by decide +kernel
set_option maxRecDepth 20000 in
theorem kd_X6_areApart : yX6_areApart.cls = RX6 ∧ yX6_areApart.cls ≠ "java/lang/invoke/MethodHandle" ∧ yX6_areApart.cls ≠ "java/lang/invoke/VarHandle" ∧ (parseMethodDescriptor yX6_areApart.desc).map (fun d => d.parameters.length) = some 3 := by decide +kernel
set_option maxRecDepth 20000 in
theorem kd_X6_reads : yX6_reads.cls = RX6 ∧ yX6_reads.cls ≠ "java/lang/invoke/MethodHandle" ∧ yX6_reads.cls ≠ "java/lang/invoke/VarHandle" ∧ (parseMethodDescriptor yX6_reads.desc).map (fun d => d.parameters.length) = some 2 := by decide +kernel
set_option maxRecDepth 20000 in
theorem in_X6_fits_X6 : ∀ w ∈ wsX60, w ∈ wsX6_fits := by decide +kernel
set_option maxRecDepth 20000 in
theorem fl_X6_fits_17 : Cond.fieldLink RX6 17 "PotLabelsModel" "buffer" "[C" ∈ wsX6_fits := by decide +kernel
set_option maxRecDepth 20000 in
theorem in_X6_error_X6 : ∀ w ∈ wsX60, w ∈ wsX6_error := by decide +kernel
set_option maxRecDepth 20000 in
theorem fl_X6_error_127 : Cond.fieldLink RX6 127 "PotLabelsModel" "typed" "I" ∈ wsX6_error := by decide +kernel
set_option maxRecDepth 20000 in
theorem kd_X6_fits : yX6_fits.cls = RX6 ∧ yX6_fits.cls ≠ "java/lang/invoke/MethodHandle" ∧ yX6_fits.cls ≠ "java/lang/invoke/VarHandle" ∧ (parseMethodDescriptor yX6_fits.desc).map (fun d => d.parameters.length) = some 1 := by decide +kernel
set_option maxRecDepth 20000 in
theorem in_X6_ofPot_X6 : ∀ w ∈ wsX60, w ∈ wsX6_ofPot := by decide +kernel
set_option maxRecDepth 20000 in
theorem fl_X6_ofPot_7 : Cond.fieldLink RX6 7 "PotLabelsModel" "s" "[I" ∈ wsX6_ofPot := by decide +kernel
set_option maxRecDepth 20000 in
theorem kd_X6_tellers : yX6_tellers.cls = RX6 ∧ yX6_tellers.cls ≠ "java/lang/invoke/MethodHandle" ∧ yX6_tellers.cls ≠ "java/lang/invoke/VarHandle" ∧ (parseMethodDescriptor yX6_tellers.desc).map (fun d => d.parameters.length) = some 1 := by decide +kernel
set_option maxRecDepth 20000 in
theorem in_X6_seenBy_X6 : ∀ w ∈ wsX60, w ∈ wsX6_seenBy := by decide +kernel
set_option maxRecDepth 20000 in
theorem fl_X6_seenBy_7 : Cond.fieldLink RX6 7 "PotLabelsModel" "s" "[I" ∈ wsX6_seenBy := by decide +kernel
set_option maxRecDepth 20000 in
theorem in_X6_chartsRead_X6 : ∀ w ∈ wsX60, w ∈ wsX6_chartsRead := by decide +kernel
set_option maxRecDepth 20000 in
theorem fl_X6_chartsRead_7 : Cond.fieldLink RX6 7 "PotLabelsModel" "s" "[I" ∈ wsX6_chartsRead := by decide +kernel
set_option maxRecDepth 20000 in
theorem in_X6_ofPainter_X6 : ∀ w ∈ wsX60, w ∈ wsX6_ofPainter := by decide +kernel
set_option maxRecDepth 20000 in
theorem fl_X6_ofPainter_7 : Cond.fieldLink RX6 7 "PotLabelsModel" "s" "[I" ∈ wsX6_ofPainter := by decide +kernel
set_option maxRecDepth 20000 in
theorem kd_X6_pairs : yX6_pairs.cls = RX6 ∧ yX6_pairs.cls ≠ "java/lang/invoke/MethodHandle" ∧ yX6_pairs.cls ≠ "java/lang/invoke/VarHandle" ∧ (parseMethodDescriptor yX6_pairs.desc).map (fun d => d.parameters.length) = some 1 := by decide +kernel
set_option maxRecDepth 20000 in
theorem kd_X6_wrong : yX6_wrong.cls = RX6 ∧ yX6_wrong.cls ≠ "java/lang/invoke/MethodHandle" ∧ yX6_wrong.cls ≠ "java/lang/invoke/VarHandle" ∧ (parseMethodDescriptor yX6_wrong.desc).map (fun d => d.parameters.length) = some 1 := by decide +kernel
set_option maxRecDepth 20000 in
theorem kd_X6_chartsRead : yX6_chartsRead.cls = RX6 ∧ yX6_chartsRead.cls ≠ "java/lang/invoke/MethodHandle" ∧ yX6_chartsRead.cls ≠ "java/lang/invoke/VarHandle" ∧ (parseMethodDescriptor yX6_chartsRead.desc).map (fun d => d.parameters.length) = some 1 := by decide +kernel
set_option maxRecDepth 20000 in
theorem kd_X6_readers : yX6_readers.cls = RX6 ∧ yX6_readers.cls ≠ "java/lang/invoke/MethodHandle" ∧ yX6_readers.cls ≠ "java/lang/invoke/VarHandle" ∧ (parseMethodDescriptor yX6_readers.desc).map (fun d => d.parameters.length) = some 1 := by decide +kernel
set_option maxRecDepth 20000 in
theorem kd_X6_labelled : yX6_labelled.cls = RX6 ∧ yX6_labelled.cls ≠ "java/lang/invoke/MethodHandle" ∧ yX6_labelled.cls ≠ "java/lang/invoke/VarHandle" ∧ (parseMethodDescriptor yX6_labelled.desc).map (fun d => d.parameters.length) = some 0 := by decide +kernel
set_option maxRecDepth 20000 in
theorem kd_X6_unlike : yX6_unlike.cls = RX6 ∧ yX6_unlike.cls ≠ "java/lang/invoke/MethodHandle" ∧ yX6_unlike.cls ≠ "java/lang/invoke/VarHandle" ∧ (parseMethodDescriptor yX6_unlike.desc).map (fun d => d.parameters.length) = some 0 := by decide +kernel
set_option maxRecDepth 20000 in
theorem in_X6_counted_X6 : ∀ w ∈ wsX60, w ∈ wsX6_counted := by decide +kernel
set_option maxRecDepth 20000 in
theorem fl_X6_counted_7 : Cond.fieldLink RX6 7 "PotLabelsModel" "s" "[I" ∈ wsX6_counted := by decide +kernel
set_option maxRecDepth 20000 in
theorem kd_X6_alikeToAll : yX6_alikeToAll.cls = RX6 ∧ yX6_alikeToAll.cls ≠ "java/lang/invoke/MethodHandle" ∧ yX6_alikeToAll.cls ≠ "java/lang/invoke/VarHandle" ∧ (parseMethodDescriptor yX6_alikeToAll.desc).map (fun d => d.parameters.length) = some 0 := by decide +kernel
set_option maxRecDepth 20000 in
theorem kd_X6_ofPainter : yX6_ofPainter.cls = RX6 ∧ yX6_ofPainter.cls ≠ "java/lang/invoke/MethodHandle" ∧ yX6_ofPainter.cls ≠ "java/lang/invoke/VarHandle" ∧ (parseMethodDescriptor yX6_ofPainter.desc).map (fun d => d.parameters.length) = some 2 := by decide +kernel
set_option maxRecDepth 20000 in
theorem fl_X6_counted_35 : Cond.fieldLink RX6 35 "PotLabelsModel" "saved" "I" ∈ wsX6_counted := by decide +kernel
set_option maxHeartbeats 4000000 in
set_option maxRecDepth 100000 in
theorem cm_labelOf {l : Launch} {G : GG} {M : MM} {σ : Sg} (hS : Sm M 0 σ) (hW : Wf σ) {i : Nat} (hi : i < 8) : Ct l G yX6_labelOf wsX6_labelOf 1 ([.ref (G.2.2 84), .int (nI i)] : List Value) M (rI (oI (lab σ i)) M) := by
  refine Ct.of (cc := cX6_labelOf) (maxL := 2) (ret := (some .int)) (lv := [(0, .ref (G.2.2 84)), (1, .int (nI i))]) (by decide) rfl rfl (Nat.le_of_ble_eq_true rfl) ?_
  intro pg ev sg mm bl mt cd AZ C hret
  refine j_aload_n C dX6_labelOf_0 rfl ?_
  refine j_getf C dX6_labelOf_1 rfl (by decide) (T := TX6) rfl in_X6_labelOf_X6 (k := 0) (by decide) fl_X6_labelOf_7 rfl rfl ?_
  refine j_iconst C dX6_labelOf_4 (v := nI 4) (by decide) ?_
  refine j_iload_n C dX6_labelOf_5 rfl ?_
  refine j_imulN C dX6_labelOf_6 ?_
  refine j_iconst C dX6_labelOf_7 (v := nI 3) (by decide) ?_
  refine j_iaddN C dX6_labelOf_8 ?_
  refine j_ialdN C dX6_labelOf_9 (show ilen 85 = some 531 from rfl) (by omega) (by decide) ?_
  refine j_top C _ (m_lb hS (by omega)) ?_
  exact j_ireturn C hret dX6_labelOf_10 ⟨rfl, rfl⟩

set_option maxHeartbeats 4000000 in
set_option maxRecDepth 100000 in
theorem cm_unlike {l : Launch} {G : GG} {M : MM} {σ : Sg} (hS : Sm M 0 σ) (hW : Wf σ)  : Ct l G yX6_unlike wsX6_unlike 2 ([.ref (G.2.2 84)] : List Value) M (rI (nI (popc (lmask σ))) M) := by
  refine Ct.of (cc := cX6_unlike) (maxL := 6) (ret := (some .int)) (lv := [(0, .ref (G.2.2 84))]) (by decide) rfl rfl (Nat.le_of_ble_eq_true rfl) ?_
  intro pg ev sg mm bl mt cd AZ C hret
  refine j_iconst C dX6_unlike_0 (v := nI 0) (by decide) ?_
  refine j_istore_n C dX6_unlike_1 (by decide) ?_
  refine j_iconst C dX6_unlike_2 (v := nI 0) (by decide) ?_
  refine j_istore_n C dX6_unlike_3 (by decide) ?_
  refine j_iconst C dX6_unlike_4 (v := nI 0) (by decide) ?_
  refine j_istore_n C dX6_unlike_5 (by decide) ?_
  have L6 : ∀ i, i ≤ 8 → ∀ acc n, acc = orN i (lmF σ) → acc < 256 → n = popc acc → J G pg l ev (rmD 2) sg mm ([.ref (G.2.2 84)] : List Value).toArray bl mt cd AZ 6 (MQ bl (QQ G (rI (nI (popc (lmask σ))) M) AZ) ([.ref (G.2.2 84)] : List Value).toArray sg 0 0 AZ) 0 0 6 [(0, .ref (G.2.2 84)), (1, .int (nI acc)), (2, .int (nI n)), (3, .int (nI i))] [] (M) := by
    refine dnto ?_
    intro i hi6 ih6 acc n ha hlt hn
    refine j_iload_n C dX6_unlike_6 rfl ?_
    refine j_bipush C dX6_unlike_7 (v := nI 8) (by decide) ?_
    refine j_icmp_geN C dX6_unlike_9 (tgt := 76) (by decide) (by omega) (by omega) (fun cq9 => ?_) (fun cq9 => ?_)
    · refine j_iload_n C dX6_unlike_76 rfl ?_
      exact j_ireturn C hret dX6_unlike_77 ⟨congrArg (fun z => some (Value.int (nI z))) (by rw [hn, ha, show i = 8 by omega]; rfl), rfl⟩
    · have hl8 : lab σ i ≤ 8 := (hW.1 i cq9).2.2.2
      refine j_aload_n C dX6_unlike_12 rfl ?_
      refine j_iload_n C dX6_unlike_13 rfl ?_
      refine j_callV C (cm_labelOf hS hW (by omega)) dX6_unlike_14 rfl (by decide) (T := TX6) rfl gX6_unlike_X6_labelOf rfl kd_X6_labelOf rfl rfl (Nat.le_of_ble_eq_true rfl) ⟨by decide, by decide⟩ ⟨Nat.zero_le _, Nat.zero_le _⟩ (k_I ?_)
      refine j_istore C dX6_unlike_17 (by decide) ?_
      refine j_iload C dX6_unlike_19 rfl ?_
      refine j_iconst C dX6_unlike_21 (v := -1) (by decide) ?_
      refine j_icmp_eqO C dX6_unlike_22 (tgt := 38) (by decide) (by omega) (fun cq22 => ?_) (fun cq22 => ?_)
      · refine j_iconst C dX6_unlike_38 (v := nI 0) (by decide) ?_
        refine j_top C (bI (isL σ i acc)) (by first | exact isL_f1 cq22 | exact isL_f2 cq31) ?_
        refine j_istore C dX6_unlike_39 (by decide) ?_
        refine j_iload_n C dX6_unlike_41 rfl ?_
        refine j_iload C dX6_unlike_42 rfl ?_
        refine j_if_eqB C dX6_unlike_44 (tgt := 54) (by decide) (fun cq44 => ?_) (fun cq44 => ?_)
        · refine j_iconst C dX6_unlike_54 (v := nI 0) (by decide) ?_
          refine j_ior C dX6_unlike_55 ?_
          refine j_top C (_) (nI_or (by omega) (by first | exact Nat.pow_lt_pow_right (by decide) (by omega) | decide)) ?_
          refine j_istore_n C dX6_unlike_56 (by decide) ?_
          refine j_iload_n C dX6_unlike_57 rfl ?_
          refine j_iload C dX6_unlike_58 rfl ?_
          refine j_if_eqB C dX6_unlike_60 (tgt := 67) (by decide) (fun cq60 => ?_) (fun cq60 => ?_)
          · refine j_iconst C dX6_unlike_67 (v := nI 0) (by decide) ?_
            refine j_iaddN C dX6_unlike_68 ?_
            refine j_istore_n C dX6_unlike_69 (by decide) ?_
            refine j_iincN C dX6_unlike_70 rfl (by decide) ?_
            refine j_goto C dX6_unlike_73 (tgt := 6) (by decide) ?_
            exact j_pick [0, 1, 2, 3] (by first | exact absurd (cq44.symm.trans cq60) (by decide) | exact ih6 (by omega) _ _ (lm_t ha cq44) (Nat.or_lt_two_pow (n := 8) hlt (Nat.pow_lt_pow_right (by decide) (by omega))) (by rw [hn]; exact (popc_or hlt (by omega) (isL_ne cq44).2).symm) | exact ih6 (by omega) _ _ (lm_f ha hlt hl8 cq44) (by rw [Nat.or_zero]; exact hlt) (by rw [hn, Nat.or_zero]; rfl))
          · refine j_iconst C dX6_unlike_63 (v := nI 1) (by decide) ?_
            refine j_goto C dX6_unlike_64 (tgt := 68) (by decide) ?_
            refine j_iaddN C dX6_unlike_68 ?_
            refine j_istore_n C dX6_unlike_69 (by decide) ?_
            refine j_iincN C dX6_unlike_70 rfl (by decide) ?_
            refine j_goto C dX6_unlike_73 (tgt := 6) (by decide) ?_
            exact j_pick [0, 1, 2, 3] (by first | exact absurd (cq44.symm.trans cq60) (by decide) | exact ih6 (by omega) _ _ (lm_t ha cq44) (Nat.or_lt_two_pow (n := 8) hlt (Nat.pow_lt_pow_right (by decide) (by omega))) (by rw [hn]; exact (popc_or hlt (by omega) (isL_ne cq44).2).symm) | exact ih6 (by omega) _ _ (lm_f ha hlt hl8 cq44) (by rw [Nat.or_zero]; exact hlt) (by rw [hn, Nat.or_zero]; rfl))
        · refine j_iconst C dX6_unlike_47 (v := nI 1) (by decide) ?_
          refine j_iload C dX6_unlike_48 rfl ?_
          refine j_top C (_) (oI_pos (isL_ne cq44).1) ?_
          refine j_ishl C dX6_unlike_50 ?_
          refine j_top C (_) (nI_shl1 (by omega)) ?_
          refine j_goto C dX6_unlike_51 (tgt := 55) (by decide) ?_
          refine j_ior C dX6_unlike_55 ?_
          refine j_top C (_) (nI_or (by omega) (by first | exact Nat.pow_lt_pow_right (by decide) (by omega) | decide)) ?_
          refine j_istore_n C dX6_unlike_56 (by decide) ?_
          refine j_iload_n C dX6_unlike_57 rfl ?_
          refine j_iload C dX6_unlike_58 rfl ?_
          refine j_if_eqB C dX6_unlike_60 (tgt := 67) (by decide) (fun cq60 => ?_) (fun cq60 => ?_)
          · refine j_iconst C dX6_unlike_67 (v := nI 0) (by decide) ?_
            refine j_iaddN C dX6_unlike_68 ?_
            refine j_istore_n C dX6_unlike_69 (by decide) ?_
            refine j_iincN C dX6_unlike_70 rfl (by decide) ?_
            refine j_goto C dX6_unlike_73 (tgt := 6) (by decide) ?_
            exact j_pick [0, 1, 2, 3] (by first | exact absurd (cq44.symm.trans cq60) (by decide) | exact ih6 (by omega) _ _ (lm_t ha cq44) (Nat.or_lt_two_pow (n := 8) hlt (Nat.pow_lt_pow_right (by decide) (by omega))) (by rw [hn]; exact (popc_or hlt (by omega) (isL_ne cq44).2).symm) | exact ih6 (by omega) _ _ (lm_f ha hlt hl8 cq44) (by rw [Nat.or_zero]; exact hlt) (by rw [hn, Nat.or_zero]; rfl))
          · refine j_iconst C dX6_unlike_63 (v := nI 1) (by decide) ?_
            refine j_goto C dX6_unlike_64 (tgt := 68) (by decide) ?_
            refine j_iaddN C dX6_unlike_68 ?_
            refine j_istore_n C dX6_unlike_69 (by decide) ?_
            refine j_iincN C dX6_unlike_70 rfl (by decide) ?_
            refine j_goto C dX6_unlike_73 (tgt := 6) (by decide) ?_
            exact j_pick [0, 1, 2, 3] (by first | exact absurd (cq44.symm.trans cq60) (by decide) | exact ih6 (by omega) _ _ (lm_t ha cq44) (Nat.or_lt_two_pow (n := 8) hlt (Nat.pow_lt_pow_right (by decide) (by omega))) (by rw [hn]; exact (popc_or hlt (by omega) (isL_ne cq44).2).symm) | exact ih6 (by omega) _ _ (lm_f ha hlt hl8 cq44) (by rw [Nat.or_zero]; exact hlt) (by rw [hn, Nat.or_zero]; rfl))
      · refine j_iload_n C dX6_unlike_25 rfl ?_
        refine j_iload C dX6_unlike_26 rfl ?_
        refine j_top C (_) (oI_pos cq22) ?_
        refine j_ishr C dX6_unlike_28 ?_
        refine j_top C (_) (nI_shr (by omega) (by omega)) ?_
        refine j_iconst C dX6_unlike_29 (v := nI 1) (by decide) ?_
        refine j_iand C dX6_unlike_30 ?_
        refine j_top C (_) ((nI_and (Nat.lt_of_le_of_lt (Nat.div_le_self _ _) (by omega)) (by decide)).trans (bit_and acc (lab σ i - 1))) ?_
        refine j_if_neB C dX6_unlike_31 (tgt := 38) (by decide) (fun cq31 => ?_) (fun cq31 => ?_)
        · refine j_iconst C dX6_unlike_38 (v := nI 0) (by decide) ?_
          refine j_top C (bI (isL σ i acc)) (by first | exact isL_f1 cq22 | exact isL_f2 cq31) ?_
          refine j_istore C dX6_unlike_39 (by decide) ?_
          refine j_iload_n C dX6_unlike_41 rfl ?_
          refine j_iload C dX6_unlike_42 rfl ?_
          refine j_if_eqB C dX6_unlike_44 (tgt := 54) (by decide) (fun cq44 => ?_) (fun cq44 => ?_)
          · refine j_iconst C dX6_unlike_54 (v := nI 0) (by decide) ?_
            refine j_ior C dX6_unlike_55 ?_
            refine j_top C (_) (nI_or (by omega) (by first | exact Nat.pow_lt_pow_right (by decide) (by omega) | decide)) ?_
            refine j_istore_n C dX6_unlike_56 (by decide) ?_
            refine j_iload_n C dX6_unlike_57 rfl ?_
            refine j_iload C dX6_unlike_58 rfl ?_
            refine j_if_eqB C dX6_unlike_60 (tgt := 67) (by decide) (fun cq60 => ?_) (fun cq60 => ?_)
            · refine j_iconst C dX6_unlike_67 (v := nI 0) (by decide) ?_
              refine j_iaddN C dX6_unlike_68 ?_
              refine j_istore_n C dX6_unlike_69 (by decide) ?_
              refine j_iincN C dX6_unlike_70 rfl (by decide) ?_
              refine j_goto C dX6_unlike_73 (tgt := 6) (by decide) ?_
              exact j_pick [0, 1, 2, 3] (by first | exact absurd (cq44.symm.trans cq60) (by decide) | exact ih6 (by omega) _ _ (lm_t ha cq44) (Nat.or_lt_two_pow (n := 8) hlt (Nat.pow_lt_pow_right (by decide) (by omega))) (by rw [hn]; exact (popc_or hlt (by omega) (isL_ne cq44).2).symm) | exact ih6 (by omega) _ _ (lm_f ha hlt hl8 cq44) (by rw [Nat.or_zero]; exact hlt) (by rw [hn, Nat.or_zero]; rfl))
            · refine j_iconst C dX6_unlike_63 (v := nI 1) (by decide) ?_
              refine j_goto C dX6_unlike_64 (tgt := 68) (by decide) ?_
              refine j_iaddN C dX6_unlike_68 ?_
              refine j_istore_n C dX6_unlike_69 (by decide) ?_
              refine j_iincN C dX6_unlike_70 rfl (by decide) ?_
              refine j_goto C dX6_unlike_73 (tgt := 6) (by decide) ?_
              exact j_pick [0, 1, 2, 3] (by first | exact absurd (cq44.symm.trans cq60) (by decide) | exact ih6 (by omega) _ _ (lm_t ha cq44) (Nat.or_lt_two_pow (n := 8) hlt (Nat.pow_lt_pow_right (by decide) (by omega))) (by rw [hn]; exact (popc_or hlt (by omega) (isL_ne cq44).2).symm) | exact ih6 (by omega) _ _ (lm_f ha hlt hl8 cq44) (by rw [Nat.or_zero]; exact hlt) (by rw [hn, Nat.or_zero]; rfl))
          · refine j_iconst C dX6_unlike_47 (v := nI 1) (by decide) ?_
            refine j_iload C dX6_unlike_48 rfl ?_
            refine j_top C (_) (oI_pos (isL_ne cq44).1) ?_
            refine j_ishl C dX6_unlike_50 ?_
            refine j_top C (_) (nI_shl1 (by omega)) ?_
            refine j_goto C dX6_unlike_51 (tgt := 55) (by decide) ?_
            refine j_ior C dX6_unlike_55 ?_
            refine j_top C (_) (nI_or (by omega) (by first | exact Nat.pow_lt_pow_right (by decide) (by omega) | decide)) ?_
            refine j_istore_n C dX6_unlike_56 (by decide) ?_
            refine j_iload_n C dX6_unlike_57 rfl ?_
            refine j_iload C dX6_unlike_58 rfl ?_
            refine j_if_eqB C dX6_unlike_60 (tgt := 67) (by decide) (fun cq60 => ?_) (fun cq60 => ?_)
            · refine j_iconst C dX6_unlike_67 (v := nI 0) (by decide) ?_
              refine j_iaddN C dX6_unlike_68 ?_
              refine j_istore_n C dX6_unlike_69 (by decide) ?_
              refine j_iincN C dX6_unlike_70 rfl (by decide) ?_
              refine j_goto C dX6_unlike_73 (tgt := 6) (by decide) ?_
              exact j_pick [0, 1, 2, 3] (by first | exact absurd (cq44.symm.trans cq60) (by decide) | exact ih6 (by omega) _ _ (lm_t ha cq44) (Nat.or_lt_two_pow (n := 8) hlt (Nat.pow_lt_pow_right (by decide) (by omega))) (by rw [hn]; exact (popc_or hlt (by omega) (isL_ne cq44).2).symm) | exact ih6 (by omega) _ _ (lm_f ha hlt hl8 cq44) (by rw [Nat.or_zero]; exact hlt) (by rw [hn, Nat.or_zero]; rfl))
            · refine j_iconst C dX6_unlike_63 (v := nI 1) (by decide) ?_
              refine j_goto C dX6_unlike_64 (tgt := 68) (by decide) ?_
              refine j_iaddN C dX6_unlike_68 ?_
              refine j_istore_n C dX6_unlike_69 (by decide) ?_
              refine j_iincN C dX6_unlike_70 rfl (by decide) ?_
              refine j_goto C dX6_unlike_73 (tgt := 6) (by decide) ?_
              exact j_pick [0, 1, 2, 3] (by first | exact absurd (cq44.symm.trans cq60) (by decide) | exact ih6 (by omega) _ _ (lm_t ha cq44) (Nat.or_lt_two_pow (n := 8) hlt (Nat.pow_lt_pow_right (by decide) (by omega))) (by rw [hn]; exact (popc_or hlt (by omega) (isL_ne cq44).2).symm) | exact ih6 (by omega) _ _ (lm_f ha hlt hl8 cq44) (by rw [Nat.or_zero]; exact hlt) (by rw [hn, Nat.or_zero]; rfl))
        · refine j_iconst C dX6_unlike_34 (v := nI 1) (by decide) ?_
          refine j_top C (bI (isL σ i acc)) (isL_t cq22 cq31) ?_
          refine j_goto C dX6_unlike_35 (tgt := 39) (by decide) ?_
          refine j_istore C dX6_unlike_39 (by decide) ?_
          refine j_iload_n C dX6_unlike_41 rfl ?_
          refine j_iload C dX6_unlike_42 rfl ?_
          refine j_if_eqB C dX6_unlike_44 (tgt := 54) (by decide) (fun cq44 => ?_) (fun cq44 => ?_)
          · refine j_iconst C dX6_unlike_54 (v := nI 0) (by decide) ?_
            refine j_ior C dX6_unlike_55 ?_
            refine j_top C (_) (nI_or (by omega) (by first | exact Nat.pow_lt_pow_right (by decide) (by omega) | decide)) ?_
            refine j_istore_n C dX6_unlike_56 (by decide) ?_
            refine j_iload_n C dX6_unlike_57 rfl ?_
            refine j_iload C dX6_unlike_58 rfl ?_
            refine j_if_eqB C dX6_unlike_60 (tgt := 67) (by decide) (fun cq60 => ?_) (fun cq60 => ?_)
            · refine j_iconst C dX6_unlike_67 (v := nI 0) (by decide) ?_
              refine j_iaddN C dX6_unlike_68 ?_
              refine j_istore_n C dX6_unlike_69 (by decide) ?_
              refine j_iincN C dX6_unlike_70 rfl (by decide) ?_
              refine j_goto C dX6_unlike_73 (tgt := 6) (by decide) ?_
              exact j_pick [0, 1, 2, 3] (by first | exact absurd (cq44.symm.trans cq60) (by decide) | exact ih6 (by omega) _ _ (lm_t ha cq44) (Nat.or_lt_two_pow (n := 8) hlt (Nat.pow_lt_pow_right (by decide) (by omega))) (by rw [hn]; exact (popc_or hlt (by omega) (isL_ne cq44).2).symm) | exact ih6 (by omega) _ _ (lm_f ha hlt hl8 cq44) (by rw [Nat.or_zero]; exact hlt) (by rw [hn, Nat.or_zero]; rfl))
            · refine j_iconst C dX6_unlike_63 (v := nI 1) (by decide) ?_
              refine j_goto C dX6_unlike_64 (tgt := 68) (by decide) ?_
              refine j_iaddN C dX6_unlike_68 ?_
              refine j_istore_n C dX6_unlike_69 (by decide) ?_
              refine j_iincN C dX6_unlike_70 rfl (by decide) ?_
              refine j_goto C dX6_unlike_73 (tgt := 6) (by decide) ?_
              exact j_pick [0, 1, 2, 3] (by first | exact absurd (cq44.symm.trans cq60) (by decide) | exact ih6 (by omega) _ _ (lm_t ha cq44) (Nat.or_lt_two_pow (n := 8) hlt (Nat.pow_lt_pow_right (by decide) (by omega))) (by rw [hn]; exact (popc_or hlt (by omega) (isL_ne cq44).2).symm) | exact ih6 (by omega) _ _ (lm_f ha hlt hl8 cq44) (by rw [Nat.or_zero]; exact hlt) (by rw [hn, Nat.or_zero]; rfl))
          · refine j_iconst C dX6_unlike_47 (v := nI 1) (by decide) ?_
            refine j_iload C dX6_unlike_48 rfl ?_
            refine j_top C (_) (oI_pos (isL_ne cq44).1) ?_
            refine j_ishl C dX6_unlike_50 ?_
            refine j_top C (_) (nI_shl1 (by omega)) ?_
            refine j_goto C dX6_unlike_51 (tgt := 55) (by decide) ?_
            refine j_ior C dX6_unlike_55 ?_
            refine j_top C (_) (nI_or (by omega) (by first | exact Nat.pow_lt_pow_right (by decide) (by omega) | decide)) ?_
            refine j_istore_n C dX6_unlike_56 (by decide) ?_
            refine j_iload_n C dX6_unlike_57 rfl ?_
            refine j_iload C dX6_unlike_58 rfl ?_
            refine j_if_eqB C dX6_unlike_60 (tgt := 67) (by decide) (fun cq60 => ?_) (fun cq60 => ?_)
            · refine j_iconst C dX6_unlike_67 (v := nI 0) (by decide) ?_
              refine j_iaddN C dX6_unlike_68 ?_
              refine j_istore_n C dX6_unlike_69 (by decide) ?_
              refine j_iincN C dX6_unlike_70 rfl (by decide) ?_
              refine j_goto C dX6_unlike_73 (tgt := 6) (by decide) ?_
              exact j_pick [0, 1, 2, 3] (by first | exact absurd (cq44.symm.trans cq60) (by decide) | exact ih6 (by omega) _ _ (lm_t ha cq44) (Nat.or_lt_two_pow (n := 8) hlt (Nat.pow_lt_pow_right (by decide) (by omega))) (by rw [hn]; exact (popc_or hlt (by omega) (isL_ne cq44).2).symm) | exact ih6 (by omega) _ _ (lm_f ha hlt hl8 cq44) (by rw [Nat.or_zero]; exact hlt) (by rw [hn, Nat.or_zero]; rfl))
            · refine j_iconst C dX6_unlike_63 (v := nI 1) (by decide) ?_
              refine j_goto C dX6_unlike_64 (tgt := 68) (by decide) ?_
              refine j_iaddN C dX6_unlike_68 ?_
              refine j_istore_n C dX6_unlike_69 (by decide) ?_
              refine j_iincN C dX6_unlike_70 rfl (by decide) ?_
              refine j_goto C dX6_unlike_73 (tgt := 6) (by decide) ?_
              exact j_pick [0, 1, 2, 3] (by first | exact absurd (cq44.symm.trans cq60) (by decide) | exact ih6 (by omega) _ _ (lm_t ha cq44) (Nat.or_lt_two_pow (n := 8) hlt (Nat.pow_lt_pow_right (by decide) (by omega))) (by rw [hn]; exact (popc_or hlt (by omega) (isL_ne cq44).2).symm) | exact ih6 (by omega) _ _ (lm_f ha hlt hl8 cq44) (by rw [Nat.or_zero]; exact hlt) (by rw [hn, Nat.or_zero]; rfl))
  exact L6 0 (by omega) 0 0 rfl (by omega) (by decide +kernel)

set_option maxHeartbeats 4000000 in
set_option maxRecDepth 100000 in
theorem cm_figure {l : Launch} {G : GG} {M : MM} {σ : Sg} (hS : Sm M 0 σ) (hW : Wf σ) {ch : Nat} (hc : ch < 6) : Ct l G yX6_figure wsX6_figure 1 ([.ref (G.2.2 84), .int (nI ch)] : List Value) M (rI (nI (σ (45 + 2 * ch))) M) := by
  refine Ct.of (cc := cX6_figure) (maxL := 2) (ret := (some .int)) (lv := [(0, .ref (G.2.2 84)), (1, .int (nI ch))]) (by decide) rfl rfl (Nat.le_of_ble_eq_true rfl) ?_
  intro pg ev sg mm bl mt cd AZ C hret
  refine j_aload_n C dX6_figure_0 rfl ?_
  refine j_getf C dX6_figure_1 rfl (by decide) (T := TX6) rfl in_X6_figure_X6 (k := 0) (by decide) fl_X6_figure_7 rfl rfl ?_
  refine j_bipush C dX6_figure_4 (v := nI 45) (by decide) ?_
  refine j_iconst C dX6_figure_6 (v := nI 2) (by decide) ?_
  refine j_iload_n C dX6_figure_7 rfl ?_
  refine j_imulN C dX6_figure_8 ?_
  refine j_iaddN C dX6_figure_9 ?_
  refine j_ialdN C dX6_figure_10 (show ilen 85 = some 531 from rfl) (by omega) (by decide) ?_
  refine j_top C _ (m_fg hS (by omega)) ?_
  exact j_ireturn C hret dX6_figure_11 ⟨rfl, rfl⟩

set_option maxHeartbeats 4000000 in
set_option maxRecDepth 100000 in
theorem cm_ground {l : Launch} {G : GG} {M : MM} {σ : Sg} (hS : Sm M 0 σ) (hW : Wf σ) {ch : Nat} (hc : ch < 6) : Ct l G yX6_ground wsX6_ground 1 ([.ref (G.2.2 84), .int (nI ch)] : List Value) M (rI (nI (σ (46 + 2 * ch))) M) := by
  refine Ct.of (cc := cX6_ground) (maxL := 2) (ret := (some .int)) (lv := [(0, .ref (G.2.2 84)), (1, .int (nI ch))]) (by decide) rfl rfl (Nat.le_of_ble_eq_true rfl) ?_
  intro pg ev sg mm bl mt cd AZ C hret
  refine j_aload_n C dX6_ground_0 rfl ?_
  refine j_getf C dX6_ground_1 rfl (by decide) (T := TX6) rfl in_X6_ground_X6 (k := 0) (by decide) fl_X6_ground_7 rfl rfl ?_
  refine j_bipush C dX6_ground_4 (v := nI 45) (by decide) ?_
  refine j_iconst C dX6_ground_6 (v := nI 2) (by decide) ?_
  refine j_iload_n C dX6_ground_7 rfl ?_
  refine j_imulN C dX6_ground_8 ?_
  refine j_iaddN C dX6_ground_9 ?_
  refine j_iconst C dX6_ground_10 (v := nI 1) (by decide) ?_
  refine j_iaddN C dX6_ground_11 ?_
  refine j_ialdN C dX6_ground_12 (show ilen 85 = some 531 from rfl) (by omega) (by decide) ?_
  refine j_top C _ (m_gd hS (by omega)) ?_
  exact j_ireturn C hret dX6_ground_13 ⟨rfl, rfl⟩

set_option maxHeartbeats 4000000 in
set_option maxRecDepth 100000 in
theorem cm_isChart {l : Launch} {G : GG} {M : MM} {σ : Sg} (hS : Sm M 0 σ) (hW : Wf σ) {v : Int32} : Ct l G yX6_isChart wsX6_isChart 2 ([.ref (G.2.2 84), .int (v)] : List Value) M (rI (bI (inI v (nI 0) (nI (σ 44) - nI 1))) M) := by
  refine Ct.of (cc := cX6_isChart) (maxL := 2) (ret := (some .boolean)) (lv := [(0, .ref (G.2.2 84)), (1, .int (v))]) (by decide) rfl rfl (Nat.le_of_ble_eq_true rfl) ?_
  intro pg ev sg mm bl mt cd AZ C hret
  refine j_iload_n C dX6_isChart_0 rfl ?_
  refine j_iconst C dX6_isChart_1 (v := nI 0) (by decide) ?_
  refine j_aload_n C dX6_isChart_2 rfl ?_
  refine j_getf C dX6_isChart_3 rfl (by decide) (T := TX6) rfl in_X6_isChart_X6 (k := 0) (by decide) fl_X6_isChart_7 rfl rfl ?_
  refine j_bipush C dX6_isChart_6 (v := nI 44) (by decide) ?_
  refine j_ialdN C dX6_isChart_8 (show ilen 85 = some 531 from rfl) (by omega) (by decide) ?_
  refine j_top C _ (m_ch hS) ?_
  refine j_iconst C dX6_isChart_9 (v := nI 1) (by decide) ?_
  refine j_isub C dX6_isChart_10 ?_
  refine j_callS C cm_in dX6_isChart_11 gX6_isChart_X6_in rfl ks_X6_in rfl rfl (Nat.le_of_ble_eq_true rfl) ⟨by decide, by decide⟩ ⟨Nat.zero_le _, Nat.zero_le _⟩ (k_I ?_)
  exact j_zreturn C hret dX6_isChart_14 ⟨rfl, rfl⟩

set_option maxHeartbeats 4000000 in
set_option maxRecDepth 100000 in
theorem cm_reads {l : Launch} {G : GG} {M : MM} {σ : Sg} (hS : Sm M 0 σ) (hW : Wf σ) {p ch : Nat} (hp : p < 4) (hc : ch < 6) : Ct l G yX6_reads wsX6_reads 6 ([.ref (G.2.2 84), .int (nI p), .int (nI ch)] : List Value) M (rI (bI (crF σ p ch)) M) := by
  obtain ⟨q1, q2⟩ := hW.2.2.2 ch hc
  refine Ct.of (cc := cX6_reads) (maxL := 3) (ret := (some .boolean)) (lv := [(0, .ref (G.2.2 84)), (1, .int (nI p)), (2, .int (nI ch))]) (by decide) rfl rfl (Nat.le_of_ble_eq_true rfl) ?_
  intro pg ev sg mm bl mt cd AZ C hret
  refine j_aload_n C dX6_reads_0 rfl ?_
  refine j_iload_n C dX6_reads_1 rfl ?_
  refine j_aload_n C dX6_reads_2 rfl ?_
  refine j_iload_n C dX6_reads_3 rfl ?_
  refine j_callV C (cm_figure hS hW (by omega)) dX6_reads_4 rfl (by decide) (T := TX6) rfl gX6_reads_X6_figure rfl kd_X6_figure rfl rfl (Nat.le_of_ble_eq_true rfl) ⟨by decide, by decide⟩ ⟨Nat.zero_le _, Nat.zero_le _⟩ (k_I ?_)
  refine j_aload_n C dX6_reads_7 rfl ?_
  refine j_iload_n C dX6_reads_8 rfl ?_
  refine j_callV C (cm_ground hS hW (by omega)) dX6_reads_9 rfl (by decide) (T := TX6) rfl gX6_reads_X6_ground rfl kd_X6_ground rfl rfl (Nat.le_of_ble_eq_true rfl) ⟨by decide, by decide⟩ ⟨Nat.zero_le _, Nat.zero_le _⟩ (k_I ?_)
  refine j_callV C (cm_areApart hS hW (by omega) (by omega) (by omega)) dX6_reads_12 rfl (by decide) (T := TX6) rfl gX6_reads_X6_areApart rfl kd_X6_areApart rfl rfl (Nat.le_of_ble_eq_true rfl) ⟨by decide, by decide⟩ ⟨Nat.zero_le _, Nat.zero_le _⟩ (k_I ?_)
  exact j_zreturn C hret dX6_reads_15 ⟨rfl, rfl⟩

set_option maxHeartbeats 4000000 in
set_option maxRecDepth 100000 in
theorem cm_readers {l : Launch} {G : GG} {M : MM} {σ : Sg} (hS : Sm M 0 σ) (hW : Wf σ) {ch : Nat} (hc : ch < 6) : Ct l G yX6_readers wsX6_readers 7 ([.ref (G.2.2 84), .int (nI ch)] : List Value) M (rI (nI (rdm σ ch)) M) := by
  refine Ct.of (cc := cX6_readers) (maxL := 4) (ret := (some .int)) (lv := [(0, .ref (G.2.2 84)), (1, .int (nI ch))]) (by decide) rfl rfl (Nat.le_of_ble_eq_true rfl) ?_
  intro pg ev sg mm bl mt cd AZ C hret
  refine j_iconst C dX6_readers_0 (v := nI 0) (by decide) ?_
  refine j_istore_n C dX6_readers_1 (by decide) ?_
  refine j_iconst C dX6_readers_2 (v := nI 0) (by decide) ?_
  refine j_istore_n C dX6_readers_3 (by decide) ?_
  have L4 : ∀ p, p ≤ 4 → ∀ acc, acc = orN p (fun p => bif ap σ p (σ (45 + 2 * ch)) (σ (46 + 2 * ch)) then 2 ^ p else 0) → acc < 16 → J G pg l ev (rmD 7) sg mm ([.ref (G.2.2 84), .int (nI ch)] : List Value).toArray bl mt cd AZ 4 (MQ bl (QQ G (rI (nI (rdm σ ch)) M) AZ) ([.ref (G.2.2 84), .int (nI ch)] : List Value).toArray sg 0 0 AZ) 0 0 4 [(0, .ref (G.2.2 84)), (1, .int (nI ch)), (2, .int (nI acc)), (3, .int (nI p))] [] (M) := by
    refine dnto ?_
    intro p hp4 ih4 acc ha hlt
    refine j_iload_n C dX6_readers_4 rfl ?_
    refine j_iconst C dX6_readers_5 (v := nI 4) (by decide) ?_
    refine j_icmp_geN C dX6_readers_6 (tgt := 34) (by decide) (by omega) (by omega) (fun cq6 => ?_) (fun cq6 => ?_)
    · refine j_iload_n C dX6_readers_34 rfl ?_
      exact j_ireturn C hret dX6_readers_35 ⟨congrArg (fun z => some (Value.int (nI z))) (by rw [ha, show p = 4 by omega]; rfl), rfl⟩
    · refine j_iload_n C dX6_readers_9 rfl ?_
      refine j_aload_n C dX6_readers_10 rfl ?_
      refine j_iload_n C dX6_readers_11 rfl ?_
      refine j_iload_n C dX6_readers_12 rfl ?_
      refine j_callV C (cm_reads hS hW (by omega) (by omega)) dX6_readers_13 rfl (by decide) (T := TX6) rfl gX6_readers_X6_reads rfl kd_X6_reads rfl rfl (Nat.le_of_ble_eq_true rfl) ⟨by decide, by decide⟩ ⟨Nat.zero_le _, Nat.zero_le _⟩ (k_I ?_)
      refine j_if_eqB C dX6_readers_16 (tgt := 25) (by decide) (fun cq16 => ?_) (fun cq16 => ?_)
      · refine j_iconst C dX6_readers_25 (v := nI 0) (by decide) ?_
        refine j_ior C dX6_readers_26 ?_
        refine j_top C (_) (nI_or (by omega) (by first | exact Nat.pow_lt_pow_right (by decide) (by omega) | decide)) ?_
        refine j_istore_n C dX6_readers_27 (by decide) ?_
        refine j_iincN C dX6_readers_28 rfl (by decide) ?_
        refine j_goto C dX6_readers_31 (tgt := 4) (by decide) ?_
        exact ih4 (by omega) _ (by first | exact or_t ha (by rw [show ap σ p (σ (45 + 2 * ch)) (σ (46 + 2 * ch)) = true from cq16]; rfl) | exact or_t ha (by rw [show ap σ p (σ (45 + 2 * ch)) (σ (46 + 2 * ch)) = false from cq16]; rfl)) (by first | exact Nat.or_lt_two_pow (n := 4) hlt (Nat.pow_lt_pow_right (by decide) cq6) | exact Nat.or_lt_two_pow (n := 4) hlt (by decide))
      · refine j_iconst C dX6_readers_19 (v := nI 1) (by decide) ?_
        refine j_iload_n C dX6_readers_20 rfl ?_
        refine j_ishl C dX6_readers_21 ?_
        refine j_top C (_) (nI_shl1 (by omega)) ?_
        refine j_goto C dX6_readers_22 (tgt := 26) (by decide) ?_
        refine j_ior C dX6_readers_26 ?_
        refine j_top C (_) (nI_or (by omega) (by first | exact Nat.pow_lt_pow_right (by decide) (by omega) | decide)) ?_
        refine j_istore_n C dX6_readers_27 (by decide) ?_
        refine j_iincN C dX6_readers_28 rfl (by decide) ?_
        refine j_goto C dX6_readers_31 (tgt := 4) (by decide) ?_
        exact ih4 (by omega) _ (by first | exact or_t ha (by rw [show ap σ p (σ (45 + 2 * ch)) (σ (46 + 2 * ch)) = true from cq16]; rfl) | exact or_t ha (by rw [show ap σ p (σ (45 + 2 * ch)) (σ (46 + 2 * ch)) = false from cq16]; rfl)) (by first | exact Nat.or_lt_two_pow (n := 4) hlt (Nat.pow_lt_pow_right (by decide) cq6) | exact Nat.or_lt_two_pow (n := 4) hlt (by decide))
  exact L4 0 (by omega) 0 rfl (by omega)

set_option maxHeartbeats 4000000 in
set_option maxRecDepth 100000 in
theorem cm_ones {l : Launch} {G : GG} {M : MM} {a : Nat} (ha : a < 256) : Ct l G yX6_ones wsX6_ones 1 ([.int (nI a)] : List Value) M (rI (nI (popc a)) M) := by
  refine Ct.of (cc := cX6_ones) (maxL := 3) (ret := (some .int)) (lv := [(0, .int (nI a))]) (by decide) rfl rfl (Nat.le_of_ble_eq_true rfl) ?_
  intro pg ev sg mm bl mt cd AZ C hret
  refine j_iconst C dX6_ones_0 (v := nI 0) (by decide) ?_
  refine j_istore_n C dX6_ones_1 (by decide) ?_
  refine j_iconst C dX6_ones_2 (v := nI 0) (by decide) ?_
  refine j_istore_n C dX6_ones_3 (by decide) ?_
  have L4 : ∀ k, k ≤ 8 → J G pg l ev (rmD 1) sg mm ([.int (nI a)] : List Value).toArray bl mt cd AZ 3 (MQ bl (QQ G (rI (nI (popc a)) M) AZ) ([.int (nI a)] : List Value).toArray sg 0 0 AZ) 0 0 4 [(0, .int (nI a)), (1, .int (nI (cntN k (fun k => bit a k)))), (2, .int (nI k))] [] (M) := by
    refine dnto ?_
    intro k hk4 ih4
    refine j_iload_n C dX6_ones_4 rfl ?_
    refine j_bipush C dX6_ones_5 (v := nI 8) (by decide) ?_
    refine j_icmp_geN C dX6_ones_7 (tgt := 24) (by decide) (by omega) (by omega) (fun cq7 => ?_) (fun cq7 => ?_)
    · refine j_iload_n C dX6_ones_24 rfl ?_
      exact j_ireturn C hret dX6_ones_25 ⟨congrArg (fun z => some (Value.int (nI z))) (by rw [show k = 8 by omega]; rfl), rfl⟩
    · refine j_iload_n C dX6_ones_10 rfl ?_
      refine j_iload_n C dX6_ones_11 rfl ?_
      refine j_iload_n C dX6_ones_12 rfl ?_
      refine j_ishr C dX6_ones_13 ?_
      refine j_top C (_) (nI_shr (by omega) (by omega)) ?_
      refine j_iconst C dX6_ones_14 (v := nI 1) (by decide) ?_
      refine j_iand C dX6_ones_15 ?_
      refine j_top C (nI (bif bit a k then 1 else 0)) ((nI_and (Nat.lt_of_le_of_lt (Nat.div_le_self _ _) (by omega)) (by decide)).trans (congrArg nI (bit_nat a k))) ?_
      refine j_iaddN C dX6_ones_16 ?_
      refine j_istore_n C dX6_ones_17 (by decide) ?_
      refine j_iincN C dX6_ones_18 rfl (by decide) ?_
      refine j_goto C dX6_ones_21 (tgt := 4) (by decide) ?_
      exact ih4 (by omega)
  exact L4 0 (by omega)

set_option maxHeartbeats 4000000 in
set_option maxRecDepth 100000 in
theorem cm_fits_0 {l : Launch} {G : GG} {M : MM} {n : Nat} {f : Nat → Nat} (hT : Tm M n f) {j : Nat} (hj : j < n) (h6 : j % 6 = 0) : Ct l G yX6_fits wsX6_fits 2 ([.ref (G.2.2 84), .int (nI j)] : List Value) M (rI (bI (fitB 0 (f j))) M) := by
  have h60 := hT.1
  have hr := hT.2.2.2 j hj
  refine Ct.of (cc := cX6_fits) (maxL := 2) (ret := (some .boolean)) (lv := [(0, .ref (G.2.2 84)), (1, .int (nI j))]) (by decide) rfl rfl (Nat.le_of_ble_eq_true rfl) ?_
  intro pg ev sg mm bl mt cd AZ C hret
  refine j_iload_n C dX6_fits_0 rfl ?_
  refine j_bipush C dX6_fits_1 (v := nI 6) (by decide) ?_
  refine j_iremN C dX6_fits_3 (by omega) (by decide) (by decide) ?_
  refine j_top C (nI 0) (congrArg nI h6) ?_
  refine j_lookup C dX6_fits_4 (off := 36) (tgt := 40) (by decide) (by decide) (by decide) ?_
  refine j_aload_n C dX6_fits_40 rfl ?_
  refine j_getf C dX6_fits_41 rfl (by decide) (T := TX6) rfl in_X6_fits_X6 (k := 3) (by decide) fl_X6_fits_17 rfl rfl ?_
  refine j_iload_n C dX6_fits_44 rfl ?_
  refine j_caldN C dX6_fits_45 (by omega) ?_
  refine j_top C _ (hT.2.2.1 _ (by omega)) ?_
  refine j_bipush C dX6_fits_46 (v := nI 48) (by decide) ?_
  refine j_bipush C dX6_fits_48 (v := nI 55) (by decide) ?_
  refine j_callS C cm_in dX6_fits_50 gX6_fits_X6_in rfl ks_X6_in rfl rfl (Nat.le_of_ble_eq_true rfl) ⟨by decide, by decide⟩ ⟨Nat.zero_le _, Nat.zero_le _⟩ (k_I ?_)
  refine j_top C (bI (fitB 0 (f j))) (congrArg bI ((inI_dec (by omega) (by decide) (by decide)).trans (decide_eq_decide.mpr (by omega)))) ?_
  exact j_zreturn C hret dX6_fits_53 ⟨rfl, rfl⟩

set_option maxHeartbeats 4000000 in
set_option maxRecDepth 100000 in
theorem cm_fits_1 {l : Launch} {G : GG} {M : MM} {n : Nat} {f : Nat → Nat} (hT : Tm M n f) {j : Nat} (hj : j < n) (h6 : j % 6 = 1) : Ct l G yX6_fits wsX6_fits 2 ([.ref (G.2.2 84), .int (nI j)] : List Value) M (rI (bI (fitB 1 (f j))) M) := by
  have h60 := hT.1
  have hr := hT.2.2.2 j hj
  refine Ct.of (cc := cX6_fits) (maxL := 2) (ret := (some .boolean)) (lv := [(0, .ref (G.2.2 84)), (1, .int (nI j))]) (by decide) rfl rfl (Nat.le_of_ble_eq_true rfl) ?_
  intro pg ev sg mm bl mt cd AZ C hret
  refine j_iload_n C dX6_fits_0 rfl ?_
  refine j_bipush C dX6_fits_1 (v := nI 6) (by decide) ?_
  refine j_iremN C dX6_fits_3 (by omega) (by decide) (by decide) ?_
  refine j_top C (nI 1) (congrArg nI h6) ?_
  refine j_lookup C dX6_fits_4 (off := 50) (tgt := 54) (by decide) (by decide) (by decide) ?_
  refine j_aload_n C dX6_fits_54 rfl ?_
  refine j_getf C dX6_fits_55 rfl (by decide) (T := TX6) rfl in_X6_fits_X6 (k := 3) (by decide) fl_X6_fits_17 rfl rfl ?_
  refine j_iload_n C dX6_fits_58 rfl ?_
  refine j_caldN C dX6_fits_59 (by omega) ?_
  refine j_top C _ (hT.2.2.1 _ (by omega)) ?_
  refine j_bipush C dX6_fits_60 (v := nI 61) (by decide) ?_
  refine j_icmp_neN C dX6_fits_62 (tgt := 69) (by decide) (by omega) (by omega) (fun cq62 => ?_) (fun cq62 => ?_)
  · refine j_iconst C dX6_fits_69 (v := nI 0) (by decide) ?_
    refine j_top C (bI (fitB 1 (f j))) (show nI 0 = bI (decide _) from by rw [decide_eq_false (by omega)]; rfl) ?_
    exact j_zreturn C hret dX6_fits_70 ⟨rfl, rfl⟩
  · refine j_iconst C dX6_fits_65 (v := nI 1) (by decide) ?_
    refine j_top C (bI (fitB 1 (f j))) (show nI 1 = bI (decide _) from by rw [decide_eq_true (by omega)]; rfl) ?_
    refine j_goto C dX6_fits_66 (tgt := 70) (by decide) ?_
    exact j_zreturn C hret dX6_fits_70 ⟨rfl, rfl⟩

set_option maxHeartbeats 4000000 in
set_option maxRecDepth 100000 in
theorem cm_fits_2 {l : Launch} {G : GG} {M : MM} {n : Nat} {f : Nat → Nat} (hT : Tm M n f) {j : Nat} (hj : j < n) (h6 : j % 6 = 2) : Ct l G yX6_fits wsX6_fits 2 ([.ref (G.2.2 84), .int (nI j)] : List Value) M (rI (bI (fitB 2 (f j))) M) := by
  have h60 := hT.1
  have hr := hT.2.2.2 j hj
  refine Ct.of (cc := cX6_fits) (maxL := 2) (ret := (some .boolean)) (lv := [(0, .ref (G.2.2 84)), (1, .int (nI j))]) (by decide) rfl rfl (Nat.le_of_ble_eq_true rfl) ?_
  intro pg ev sg mm bl mt cd AZ C hret
  refine j_iload_n C dX6_fits_0 rfl ?_
  refine j_bipush C dX6_fits_1 (v := nI 6) (by decide) ?_
  refine j_iremN C dX6_fits_3 (by omega) (by decide) (by decide) ?_
  refine j_top C (nI 2) (congrArg nI h6) ?_
  refine j_lookup C dX6_fits_4 (off := 84) (tgt := 88) (by decide) (by decide) (by decide) ?_
  refine j_aload_n C dX6_fits_88 rfl ?_
  refine j_getf C dX6_fits_89 rfl (by decide) (T := TX6) rfl in_X6_fits_X6 (k := 3) (by decide) fl_X6_fits_17 rfl rfl ?_
  refine j_iload_n C dX6_fits_92 rfl ?_
  refine j_caldN C dX6_fits_93 (by omega) ?_
  refine j_top C _ (hT.2.2.1 _ (by omega)) ?_
  refine j_bipush C dX6_fits_94 (v := nI 48) (by decide) ?_
  refine j_bipush C dX6_fits_96 (v := nI 57) (by decide) ?_
  refine j_callS C cm_in dX6_fits_98 gX6_fits_X6_in rfl ks_X6_in rfl rfl (Nat.le_of_ble_eq_true rfl) ⟨by decide, by decide⟩ ⟨Nat.zero_le _, Nat.zero_le _⟩ (k_I ?_)
  refine j_top C (bI (fitB 2 (f j))) (congrArg bI (inI_dec (by omega) (by decide) (by decide))) ?_
  exact j_zreturn C hret dX6_fits_101 ⟨rfl, rfl⟩

set_option maxHeartbeats 4000000 in
set_option maxRecDepth 100000 in
theorem cm_fits_3 {l : Launch} {G : GG} {M : MM} {n : Nat} {f : Nat → Nat} (hT : Tm M n f) {j : Nat} (hj : j < n) (h6 : j % 6 = 3) : Ct l G yX6_fits wsX6_fits 2 ([.ref (G.2.2 84), .int (nI j)] : List Value) M (rI (bI (fitB 3 (f j))) M) := by
  have h60 := hT.1
  have hr := hT.2.2.2 j hj
  refine Ct.of (cc := cX6_fits) (maxL := 2) (ret := (some .boolean)) (lv := [(0, .ref (G.2.2 84)), (1, .int (nI j))]) (by decide) rfl rfl (Nat.le_of_ble_eq_true rfl) ?_
  intro pg ev sg mm bl mt cd AZ C hret
  refine j_iload_n C dX6_fits_0 rfl ?_
  refine j_bipush C dX6_fits_1 (v := nI 6) (by decide) ?_
  refine j_iremN C dX6_fits_3 (by omega) (by decide) (by decide) ?_
  refine j_top C (nI 3) (congrArg nI h6) ?_
  refine j_lookup C dX6_fits_4 (off := 84) (tgt := 88) (by decide) (by decide) (by decide) ?_
  refine j_aload_n C dX6_fits_88 rfl ?_
  refine j_getf C dX6_fits_89 rfl (by decide) (T := TX6) rfl in_X6_fits_X6 (k := 3) (by decide) fl_X6_fits_17 rfl rfl ?_
  refine j_iload_n C dX6_fits_92 rfl ?_
  refine j_caldN C dX6_fits_93 (by omega) ?_
  refine j_top C _ (hT.2.2.1 _ (by omega)) ?_
  refine j_bipush C dX6_fits_94 (v := nI 48) (by decide) ?_
  refine j_bipush C dX6_fits_96 (v := nI 57) (by decide) ?_
  refine j_callS C cm_in dX6_fits_98 gX6_fits_X6_in rfl ks_X6_in rfl rfl (Nat.le_of_ble_eq_true rfl) ⟨by decide, by decide⟩ ⟨Nat.zero_le _, Nat.zero_le _⟩ (k_I ?_)
  refine j_top C (bI (fitB 3 (f j))) (congrArg bI (inI_dec (by omega) (by decide) (by decide))) ?_
  exact j_zreturn C hret dX6_fits_101 ⟨rfl, rfl⟩

set_option maxHeartbeats 4000000 in
set_option maxRecDepth 100000 in
theorem cm_fits_4 {l : Launch} {G : GG} {M : MM} {n : Nat} {f : Nat → Nat} (hT : Tm M n f) {j : Nat} (hj : j < n) (h6 : j % 6 = 4) : Ct l G yX6_fits wsX6_fits 2 ([.ref (G.2.2 84), .int (nI j)] : List Value) M (rI (bI (fitB 4 (f j))) M) := by
  have h60 := hT.1
  have hr := hT.2.2.2 j hj
  refine Ct.of (cc := cX6_fits) (maxL := 2) (ret := (some .boolean)) (lv := [(0, .ref (G.2.2 84)), (1, .int (nI j))]) (by decide) rfl rfl (Nat.le_of_ble_eq_true rfl) ?_
  intro pg ev sg mm bl mt cd AZ C hret
  refine j_iload_n C dX6_fits_0 rfl ?_
  refine j_bipush C dX6_fits_1 (v := nI 6) (by decide) ?_
  refine j_iremN C dX6_fits_3 (by omega) (by decide) (by decide) ?_
  refine j_top C (nI 4) (congrArg nI h6) ?_
  refine j_lookup C dX6_fits_4 (off := 84) (tgt := 88) (by decide) (by decide) (by decide) ?_
  refine j_aload_n C dX6_fits_88 rfl ?_
  refine j_getf C dX6_fits_89 rfl (by decide) (T := TX6) rfl in_X6_fits_X6 (k := 3) (by decide) fl_X6_fits_17 rfl rfl ?_
  refine j_iload_n C dX6_fits_92 rfl ?_
  refine j_caldN C dX6_fits_93 (by omega) ?_
  refine j_top C _ (hT.2.2.1 _ (by omega)) ?_
  refine j_bipush C dX6_fits_94 (v := nI 48) (by decide) ?_
  refine j_bipush C dX6_fits_96 (v := nI 57) (by decide) ?_
  refine j_callS C cm_in dX6_fits_98 gX6_fits_X6_in rfl ks_X6_in rfl rfl (Nat.le_of_ble_eq_true rfl) ⟨by decide, by decide⟩ ⟨Nat.zero_le _, Nat.zero_le _⟩ (k_I ?_)
  refine j_top C (bI (fitB 4 (f j))) (congrArg bI (inI_dec (by omega) (by decide) (by decide))) ?_
  exact j_zreturn C hret dX6_fits_101 ⟨rfl, rfl⟩

set_option maxHeartbeats 4000000 in
set_option maxRecDepth 100000 in
theorem cm_fits_5 {l : Launch} {G : GG} {M : MM} {n : Nat} {f : Nat → Nat} (hT : Tm M n f) {j : Nat} (hj : j < n) (h6 : j % 6 = 5) : Ct l G yX6_fits wsX6_fits 2 ([.ref (G.2.2 84), .int (nI j)] : List Value) M (rI (bI (fitB 5 (f j))) M) := by
  have h60 := hT.1
  have hr := hT.2.2.2 j hj
  refine Ct.of (cc := cX6_fits) (maxL := 2) (ret := (some .boolean)) (lv := [(0, .ref (G.2.2 84)), (1, .int (nI j))]) (by decide) rfl rfl (Nat.le_of_ble_eq_true rfl) ?_
  intro pg ev sg mm bl mt cd AZ C hret
  refine j_iload_n C dX6_fits_0 rfl ?_
  refine j_bipush C dX6_fits_1 (v := nI 6) (by decide) ?_
  refine j_iremN C dX6_fits_3 (by omega) (by decide) (by decide) ?_
  refine j_top C (nI 5) (congrArg nI h6) ?_
  refine j_lookup C dX6_fits_4 (off := 67) (tgt := 71) (by decide) (by decide) (by decide) ?_
  refine j_aload_n C dX6_fits_71 rfl ?_
  refine j_getf C dX6_fits_72 rfl (by decide) (T := TX6) rfl in_X6_fits_X6 (k := 3) (by decide) fl_X6_fits_17 rfl rfl ?_
  refine j_iload_n C dX6_fits_75 rfl ?_
  refine j_caldN C dX6_fits_76 (by omega) ?_
  refine j_top C _ (hT.2.2.1 _ (by omega)) ?_
  refine j_bipush C dX6_fits_77 (v := nI 59) (by decide) ?_
  refine j_icmp_neN C dX6_fits_79 (tgt := 86) (by decide) (by omega) (by omega) (fun cq79 => ?_) (fun cq79 => ?_)
  · refine j_iconst C dX6_fits_86 (v := nI 0) (by decide) ?_
    refine j_top C (bI (fitB 5 (f j))) (show nI 0 = bI (decide _) from by rw [decide_eq_false (by omega)]; rfl) ?_
    exact j_zreturn C hret dX6_fits_87 ⟨rfl, rfl⟩
  · refine j_iconst C dX6_fits_82 (v := nI 1) (by decide) ?_
    refine j_top C (bI (fitB 5 (f j))) (show nI 1 = bI (decide _) from by rw [decide_eq_true (by omega)]; rfl) ?_
    refine j_goto C dX6_fits_83 (tgt := 87) (by decide) ?_
    exact j_zreturn C hret dX6_fits_87 ⟨rfl, rfl⟩

theorem cm_fits {l : Launch} {G : GG} {M : MM} {n : Nat} {f : Nat → Nat} (hT : Tm M n f) {j : Nat} (hj : j < n) : Ct l G yX6_fits wsX6_fits 2 [.ref (G.2.2 84), .int (nI j)] M (rI (bI (okT f j)) M) := by
  unfold okT
  rcases (show j % 6 = 0 ∨ j % 6 = 1 ∨ j % 6 = 2 ∨ j % 6 = 3 ∨ j % 6 = 4 ∨ j % 6 = 5 by omega) with h | h | h | h | h | h
  · rw [h]; exact cm_fits_0 hT hj h
  · rw [h]; exact cm_fits_1 hT hj h
  · rw [h]; exact cm_fits_2 hT hj h
  · rw [h]; exact cm_fits_3 hT hj h
  · rw [h]; exact cm_fits_4 hT hj h
  · rw [h]; exact cm_fits_5 hT hj h

set_option maxHeartbeats 4000000 in
set_option maxRecDepth 100000 in
theorem cm_error {l : Launch} {G : GG} {M : MM} {n : Nat} {f : Nat → Nat} (hT : Tm M n f)  : Ct l G yX6_error wsX6_error 3 ([.ref (G.2.2 84)] : List Value) M (rI (nI (erT n f)) M) := by
  have h60 := hT.1
  refine Ct.of (cc := cX6_error) (maxL := 2) (ret := (some .int)) (lv := [(0, .ref (G.2.2 84))]) (by decide) rfl rfl (Nat.le_of_ble_eq_true rfl) ?_
  intro pg ev sg mm bl mt cd AZ C hret
  refine j_iconst C dX6_error_0 (v := nI 0) (by decide) ?_
  refine j_istore_n C dX6_error_1 (by decide) ?_
  have L2 : ∀ i, i ≤ n → (∀ j, j < i → okT f j = true) → J G pg l ev (rmD 3) sg mm ([.ref (G.2.2 84)] : List Value).toArray bl mt cd AZ 2 (MQ bl (QQ G (rI (nI (erT n f)) M) AZ) ([.ref (G.2.2 84)] : List Value).toArray sg 0 0 AZ) 0 0 2 [(0, .ref (G.2.2 84)), (1, .int (nI i))] [] (M) := by
    refine dnto ?_
    intro i hi2 ih2 hb9
    refine j_iload_n C dX6_error_2 rfl ?_
    refine j_aload_n C dX6_error_3 rfl ?_
    refine j_getf C dX6_error_4 rfl (by decide) (T := TX6) rfl in_X6_error_X6 (k := 4) (by decide) fl_X6_error_127 rfl rfl ?_
    refine j_top C (_) hT.2.1 ?_
    refine j_icmp_geN C dX6_error_7 (tgt := 24) (by decide) (by omega) (by omega) (fun cq7 => ?_) (fun cq7 => ?_)
    · refine j_iload_n C dX6_error_24 rfl ?_
      exact j_ireturn C hret dX6_error_25 (by first | exact ⟨congrArg (fun z => some (Value.int (nI z))) ((ffF_is hi2 hb9 (Or.inr cq15)).symm), rfl⟩ | exact ⟨congrArg (fun z => some (Value.int (nI z))) ((ffF_is hi2 hb9 (Or.inl (by omega))).symm), rfl⟩)
    · refine j_aload_n C dX6_error_10 rfl ?_
      refine j_iload_n C dX6_error_11 rfl ?_
      refine j_callV C (cm_fits hT (by omega)) dX6_error_12 rfl (by decide) (T := TX6) rfl gX6_error_X6_fits rfl kd_X6_fits rfl rfl (Nat.le_of_ble_eq_true rfl) ⟨by decide, by decide⟩ ⟨Nat.zero_le _, Nat.zero_le _⟩ (k_I ?_)
      refine j_if_eqB C dX6_error_15 (tgt := 24) (by decide) (fun cq15 => ?_) (fun cq15 => ?_)
      · refine j_iload_n C dX6_error_24 rfl ?_
        exact j_ireturn C hret dX6_error_25 (by first | exact ⟨congrArg (fun z => some (Value.int (nI z))) ((ffF_is hi2 hb9 (Or.inr cq15)).symm), rfl⟩ | exact ⟨congrArg (fun z => some (Value.int (nI z))) ((ffF_is hi2 hb9 (Or.inl (by omega))).symm), rfl⟩)
      · refine j_iincN C dX6_error_18 rfl (by decide) ?_
        refine j_goto C dX6_error_21 (tgt := 2) (by decide) ?_
        exact ih2 (by omega) (fun j hj => (Nat.lt_or_ge j i).elim (hb9 j) (fun q => by rw [show j = i by omega]; exact cq15))
  exact L2 0 (by omega) (fun j hj => absurd hj (Nat.not_lt_zero j))

set_option maxHeartbeats 4000000 in
set_option maxRecDepth 100000 in
theorem cm_labelled {l : Launch} {G : GG} {M : MM} {σ : Sg} (hS : Sm M 0 σ) (hW : Wf σ)  : Ct l G yX6_labelled wsX6_labelled 2 ([.ref (G.2.2 84)] : List Value) M (rI (nI (labd σ)) M) := by
  refine Ct.of (cc := cX6_labelled) (maxL := 3) (ret := (some .int)) (lv := [(0, .ref (G.2.2 84))]) (by decide) rfl rfl (Nat.le_of_ble_eq_true rfl) ?_
  intro pg ev sg mm bl mt cd AZ C hret
  refine j_iconst C dX6_labelled_0 (v := nI 0) (by decide) ?_
  refine j_istore_n C dX6_labelled_1 (by decide) ?_
  refine j_iconst C dX6_labelled_2 (v := nI 0) (by decide) ?_
  refine j_istore_n C dX6_labelled_3 (by decide) ?_
  have L4 : ∀ i, i ≤ 8 → ∀ acc, acc = cntN i (fun p => !decide (lab σ p = 0)) → J G pg l ev (rmD 2) sg mm ([.ref (G.2.2 84)] : List Value).toArray bl mt cd AZ 3 (MQ bl (QQ G (rI (nI (labd σ)) M) AZ) ([.ref (G.2.2 84)] : List Value).toArray sg 0 0 AZ) 0 0 4 [(0, .ref (G.2.2 84)), (1, .int (nI acc)), (2, .int (nI i))] [] (M) := by
    refine dnto ?_
    intro i hi4 ih4 acc ha
    refine j_iload_n C dX6_labelled_4 rfl ?_
    refine j_bipush C dX6_labelled_5 (v := nI 8) (by decide) ?_
    refine j_icmp_geN C dX6_labelled_7 (tgt := 33) (by decide) (by omega) (by omega) (fun cq7 => ?_) (fun cq7 => ?_)
    · refine j_iload_n C dX6_labelled_33 rfl ?_
      exact j_ireturn C hret dX6_labelled_34 ⟨congrArg (fun z => some (Value.int (nI z))) (by rw [ha, show i = 8 by omega]; rfl), rfl⟩
    · have hl8 : lab σ i ≤ 8 := (hW.1 i cq7).2.2.2
      refine j_iload_n C dX6_labelled_10 rfl ?_
      refine j_aload_n C dX6_labelled_11 rfl ?_
      refine j_iload_n C dX6_labelled_12 rfl ?_
      refine j_callV C (cm_labelOf hS hW (by omega)) dX6_labelled_13 rfl (by decide) (T := TX6) rfl gX6_labelled_X6_labelOf rfl kd_X6_labelOf rfl rfl (Nat.le_of_ble_eq_true rfl) ⟨by decide, by decide⟩ ⟨Nat.zero_le _, Nat.zero_le _⟩ (k_I ?_)
      refine j_iconst C dX6_labelled_16 (v := -1) (by decide) ?_
      refine j_icmp_eqO C dX6_labelled_17 (tgt := 24) (by decide) (by omega) (fun cq17 => ?_) (fun cq17 => ?_)
      · refine j_iconst C dX6_labelled_24 (v := nI 0) (by decide) ?_
        refine j_iaddN C dX6_labelled_25 ?_
        refine j_istore_n C dX6_labelled_26 (by decide) ?_
        refine j_iincN C dX6_labelled_27 rfl (by decide) ?_
        refine j_goto C dX6_labelled_30 (tgt := 4) (by decide) ?_
        exact ih4 (by omega) _ (by first | exact cnt_t ha (by rw [decide_eq_false (show ¬ lab σ i = 0 from cq17)]; rfl) | exact cnt_f ha (by rw [decide_eq_true (show lab σ i = 0 from cq17)]; rfl))
      · refine j_iconst C dX6_labelled_20 (v := nI 1) (by decide) ?_
        refine j_goto C dX6_labelled_21 (tgt := 25) (by decide) ?_
        refine j_iaddN C dX6_labelled_25 ?_
        refine j_istore_n C dX6_labelled_26 (by decide) ?_
        refine j_iincN C dX6_labelled_27 rfl (by decide) ?_
        refine j_goto C dX6_labelled_30 (tgt := 4) (by decide) ?_
        exact ih4 (by omega) _ (by first | exact cnt_t ha (by rw [decide_eq_false (show ¬ lab σ i = 0 from cq17)]; rfl) | exact cnt_f ha (by rw [decide_eq_true (show lab σ i = 0 from cq17)]; rfl))
  exact L4 0 (by omega) 0 rfl

def isS (v : Int32) : Bool := decide (v = 0) || decide (v = nI 1)
theorem isS_t1 {v : Int32} (h : v = 0) : nI 1 = bI (isS v) := by unfold isS; rw [decide_eq_true h]; rfl
theorem isS_t2 {v : Int32} (h : v = nI 1) : nI 1 = bI (isS v) := by unfold isS; rw [decide_eq_true h, Bool.or_true]; rfl
theorem isS_f {v : Int32} (h : ¬ v = 0) (h2 : ¬ v = nI 1) : nI 0 = bI (isS v) := by unfold isS; rw [decide_eq_false h, decide_eq_false h2]; rfl

set_option maxHeartbeats 4000000 in
set_option maxRecDepth 100000 in
theorem cm_isSlot {l : Launch} {G : GG} {M : MM} {v : Int32} : Ct l G yX6_isSlot wsX6_isSlot 1 ([.int (v)] : List Value) M (rI (bI (isS v)) M) := by
  refine Ct.of (cc := cX6_isSlot) (maxL := 1) (ret := (some .boolean)) (lv := [(0, .int (v))]) (by decide) rfl rfl (Nat.le_of_ble_eq_true rfl) ?_
  intro pg ev sg mm bl mt cd AZ C hret
  refine j_iload_n C dX6_isSlot_0 rfl ?_
  refine j_if_eq C dX6_isSlot_1 (tgt := 9) (by decide) (fun cq1 => ?_) (fun cq1 => ?_)
  · refine j_iconst C dX6_isSlot_9 (v := nI 1) (by decide) ?_
    refine j_top C (bI (isS v)) (by first | exact isS_t1 cq1 | exact isS_t2 cq6) ?_
    refine j_goto C dX6_isSlot_10 (tgt := 14) (by decide) ?_
    exact j_zreturn C hret dX6_isSlot_14 ⟨rfl, rfl⟩
  · refine j_iload_n C dX6_isSlot_4 rfl ?_
    refine j_iconst C dX6_isSlot_5 (v := nI 1) (by decide) ?_
    refine j_icmp_ne C dX6_isSlot_6 (tgt := 13) (by decide) (fun cq6 => ?_) (fun cq6 => ?_)
    · refine j_iconst C dX6_isSlot_13 (v := nI 0) (by decide) ?_
      refine j_top C (bI (isS v)) (isS_f cq1 cq6) ?_
      exact j_zreturn C hret dX6_isSlot_14 ⟨rfl, rfl⟩
    · refine j_iconst C dX6_isSlot_9 (v := nI 1) (by decide) ?_
      refine j_top C (bI (isS v)) (by first | exact isS_t1 cq1 | exact isS_t2 cq6) ?_
      refine j_goto C dX6_isSlot_10 (tgt := 14) (by decide) ?_
      exact j_zreturn C hret dX6_isSlot_14 ⟨rfl, rfl⟩

set_option maxHeartbeats 4000000 in
set_option maxRecDepth 100000 in
theorem cm_tellers {l : Launch} {G : GG} {M : MM} {σ : Sg} (hS : Sm M 0 σ) (hW : Wf σ) {i : Nat} (hi : i < 8) : Ct l G yX6_tellers wsX6_tellers 6 ([.ref (G.2.2 84), .int (nI i)] : List Value) M (rI (nI (tom σ i)) M) := by
  refine Ct.of (cc := cX6_tellers) (maxL := 4) (ret := (some .int)) (lv := [(0, .ref (G.2.2 84)), (1, .int (nI i))]) (by decide) rfl rfl (Nat.le_of_ble_eq_true rfl) ?_
  intro pg ev sg mm bl mt cd AZ C hret
  refine j_iconst C dX6_tellers_0 (v := nI 0) (by decide) ?_
  refine j_istore_n C dX6_tellers_1 (by decide) ?_
  refine j_iconst C dX6_tellers_2 (v := nI 0) (by decide) ?_
  refine j_istore_n C dX6_tellers_3 (by decide) ?_
  have L4 : ∀ k, k ≤ 32 → ∀ acc, acc = orN k (fun k => bif ap σ (k / 8) i (k % 8) then 2 ^ (k / 8) else 0) → J G pg l ev (rmD 6) sg mm ([.ref (G.2.2 84), .int (nI i)] : List Value).toArray bl mt cd AZ 4 (MQ bl (QQ G (rI (nI (tom σ i)) M) AZ) ([.ref (G.2.2 84), .int (nI i)] : List Value).toArray sg 0 0 AZ) 0 0 4 [(0, .ref (G.2.2 84)), (1, .int (nI i)), (2, .int (nI acc)), (3, .int (nI k))] [] (M) := by
    refine dnto ?_
    intro k hk4 ih4 acc ha
    have hlt : acc < 16 := by rw [ha]; exact tom_lt σ i k hk4
    refine j_iload_n C dX6_tellers_4 rfl ?_
    refine j_bipush C dX6_tellers_5 (v := nI 32) (by decide) ?_
    refine j_icmp_geN C dX6_tellers_7 (tgt := 45) (by decide) (by omega) (by omega) (fun cq7 => ?_) (fun cq7 => ?_)
    · refine j_iload_n C dX6_tellers_45 rfl ?_
      exact j_ireturn C hret dX6_tellers_46 ⟨congrArg (fun z => some (Value.int (nI z))) (by rw [ha, show k = 32 by omega]; exact tom_eq σ i), rfl⟩
    · refine j_iload_n C dX6_tellers_10 rfl ?_
      refine j_aload_n C dX6_tellers_11 rfl ?_
      refine j_iload_n C dX6_tellers_12 rfl ?_
      refine j_bipush C dX6_tellers_13 (v := nI 8) (by decide) ?_
      refine j_idivN C dX6_tellers_15 (by omega) (by decide) (by decide) ?_
      refine j_iload_n C dX6_tellers_16 rfl ?_
      refine j_iload_n C dX6_tellers_17 rfl ?_
      refine j_bipush C dX6_tellers_18 (v := nI 8) (by decide) ?_
      refine j_iremN C dX6_tellers_20 (by omega) (by decide) (by decide) ?_
      refine j_callV C (cm_areApart hS hW (by omega) hi (by omega)) dX6_tellers_21 rfl (by decide) (T := TX6) rfl gX6_tellers_X6_areApart rfl kd_X6_areApart rfl rfl (Nat.le_of_ble_eq_true rfl) ⟨by decide, by decide⟩ ⟨Nat.zero_le _, Nat.zero_le _⟩ (k_I ?_)
      refine j_if_eqB C dX6_tellers_24 (tgt := 36) (by decide) (fun cq24 => ?_) (fun cq24 => ?_)
      · refine j_iconst C dX6_tellers_36 (v := nI 0) (by decide) ?_
        refine j_ior C dX6_tellers_37 ?_
        refine j_top C (_) (nI_or (by omega) (by first | exact Nat.pow_lt_pow_right (by decide) (by omega) | decide)) ?_
        refine j_istore_n C dX6_tellers_38 (by decide) ?_
        refine j_iincN C dX6_tellers_39 rfl (by decide) ?_
        refine j_goto C dX6_tellers_42 (tgt := 4) (by decide) ?_
        exact ih4 (by omega) _ (by first | exact or_t ha (by rw [cq24]; rfl) | exact or_t ha (by rw [cq24]; rfl))
      · refine j_iconst C dX6_tellers_27 (v := nI 1) (by decide) ?_
        refine j_iload_n C dX6_tellers_28 rfl ?_
        refine j_bipush C dX6_tellers_29 (v := nI 8) (by decide) ?_
        refine j_idivN C dX6_tellers_31 (by omega) (by decide) (by decide) ?_
        refine j_ishl C dX6_tellers_32 ?_
        refine j_top C (_) (nI_shl1 (by omega)) ?_
        refine j_goto C dX6_tellers_33 (tgt := 37) (by decide) ?_
        refine j_ior C dX6_tellers_37 ?_
        refine j_top C (_) (nI_or (by omega) (by first | exact Nat.pow_lt_pow_right (by decide) (by omega) | decide)) ?_
        refine j_istore_n C dX6_tellers_38 (by decide) ?_
        refine j_iincN C dX6_tellers_39 rfl (by decide) ?_
        refine j_goto C dX6_tellers_42 (tgt := 4) (by decide) ?_
        exact ih4 (by omega) _ (by first | exact or_t ha (by rw [cq24]; rfl) | exact or_t ha (by rw [cq24]; rfl))
  exact L4 0 (by omega) 0 rfl

set_option maxHeartbeats 4000000 in
set_option maxRecDepth 100000 in
theorem cm_ofPot_0 {l : Launch} {G : GG} {M : MM} {σ : Sg} (hS : Sm M 0 σ) (hW : Wf σ) {i : Nat} (hi : i < 8) : Ct l G yX6_ofPot wsX6_ofPot 7 ([.ref (G.2.2 84), .int (nI i), .int (nI 0)] : List Value) M (rI (ofP σ i 0) M) := by
  refine Ct.of (cc := cX6_ofPot) (maxL := 3) (ret := (some .int)) (lv := [(0, .ref (G.2.2 84)), (1, .int (nI i)), (2, .int (nI 0))]) (by decide) rfl rfl (Nat.le_of_ble_eq_true rfl) ?_
  intro pg ev sg mm bl mt cd AZ C hret
  refine j_iload_n C dX6_ofPot_0 rfl ?_
  refine j_iconst C dX6_ofPot_1 (v := nI 4) (by decide) ?_
  refine j_icmp_geN C dX6_ofPot_2 (tgt := 18) (by decide) (by omega) (by omega) (fun cq2 => absurd cq2 (by decide)) (fun cq2 => ?_)
  refine j_aload_n C dX6_ofPot_5 rfl ?_
  refine j_getf C dX6_ofPot_6 rfl (by decide) (T := TX6) rfl in_X6_ofPot_X6 (k := 0) (by decide) fl_X6_ofPot_7 rfl rfl ?_
  refine j_iconst C dX6_ofPot_9 (v := nI 4) (by decide) ?_
  refine j_iload_n C dX6_ofPot_10 rfl ?_
  refine j_imulN C dX6_ofPot_11 ?_
  refine j_iload_n C dX6_ofPot_12 rfl ?_
  refine j_iaddN C dX6_ofPot_13 ?_
  refine j_ialdN C dX6_ofPot_14 (show ilen 85 = some 531 from rfl) (by omega) (by decide) ?_
  refine j_top C _ (m_c0 hS (by omega)) ?_
  refine j_goto C dX6_ofPot_15 (tgt := 23) (by decide) ?_
  exact j_ireturn C hret dX6_ofPot_23 ⟨congrArg (fun z => some (Value.int z)) (rfl), rfl⟩

set_option maxHeartbeats 4000000 in
set_option maxRecDepth 100000 in
theorem cm_ofPot_1 {l : Launch} {G : GG} {M : MM} {σ : Sg} (hS : Sm M 0 σ) (hW : Wf σ) {i : Nat} (hi : i < 8) : Ct l G yX6_ofPot wsX6_ofPot 7 ([.ref (G.2.2 84), .int (nI i), .int (nI 1)] : List Value) M (rI (ofP σ i 1) M) := by
  refine Ct.of (cc := cX6_ofPot) (maxL := 3) (ret := (some .int)) (lv := [(0, .ref (G.2.2 84)), (1, .int (nI i)), (2, .int (nI 1))]) (by decide) rfl rfl (Nat.le_of_ble_eq_true rfl) ?_
  intro pg ev sg mm bl mt cd AZ C hret
  refine j_iload_n C dX6_ofPot_0 rfl ?_
  refine j_iconst C dX6_ofPot_1 (v := nI 4) (by decide) ?_
  refine j_icmp_geN C dX6_ofPot_2 (tgt := 18) (by decide) (by omega) (by omega) (fun cq2 => absurd cq2 (by decide)) (fun cq2 => ?_)
  refine j_aload_n C dX6_ofPot_5 rfl ?_
  refine j_getf C dX6_ofPot_6 rfl (by decide) (T := TX6) rfl in_X6_ofPot_X6 (k := 0) (by decide) fl_X6_ofPot_7 rfl rfl ?_
  refine j_iconst C dX6_ofPot_9 (v := nI 4) (by decide) ?_
  refine j_iload_n C dX6_ofPot_10 rfl ?_
  refine j_imulN C dX6_ofPot_11 ?_
  refine j_iload_n C dX6_ofPot_12 rfl ?_
  refine j_iaddN C dX6_ofPot_13 ?_
  refine j_ialdN C dX6_ofPot_14 (show ilen 85 = some 531 from rfl) (by omega) (by decide) ?_
  refine j_top C _ (m_c1 hS (by omega)) ?_
  refine j_goto C dX6_ofPot_15 (tgt := 23) (by decide) ?_
  exact j_ireturn C hret dX6_ofPot_23 ⟨congrArg (fun z => some (Value.int z)) (rfl), rfl⟩

set_option maxHeartbeats 4000000 in
set_option maxRecDepth 100000 in
theorem cm_ofPot_2 {l : Launch} {G : GG} {M : MM} {σ : Sg} (hS : Sm M 0 σ) (hW : Wf σ) {i : Nat} (hi : i < 8) : Ct l G yX6_ofPot wsX6_ofPot 7 ([.ref (G.2.2 84), .int (nI i), .int (nI 2)] : List Value) M (rI (ofP σ i 2) M) := by
  refine Ct.of (cc := cX6_ofPot) (maxL := 3) (ret := (some .int)) (lv := [(0, .ref (G.2.2 84)), (1, .int (nI i)), (2, .int (nI 2))]) (by decide) rfl rfl (Nat.le_of_ble_eq_true rfl) ?_
  intro pg ev sg mm bl mt cd AZ C hret
  refine j_iload_n C dX6_ofPot_0 rfl ?_
  refine j_iconst C dX6_ofPot_1 (v := nI 4) (by decide) ?_
  refine j_icmp_geN C dX6_ofPot_2 (tgt := 18) (by decide) (by omega) (by omega) (fun cq2 => absurd cq2 (by decide)) (fun cq2 => ?_)
  refine j_aload_n C dX6_ofPot_5 rfl ?_
  refine j_getf C dX6_ofPot_6 rfl (by decide) (T := TX6) rfl in_X6_ofPot_X6 (k := 0) (by decide) fl_X6_ofPot_7 rfl rfl ?_
  refine j_iconst C dX6_ofPot_9 (v := nI 4) (by decide) ?_
  refine j_iload_n C dX6_ofPot_10 rfl ?_
  refine j_imulN C dX6_ofPot_11 ?_
  refine j_iload_n C dX6_ofPot_12 rfl ?_
  refine j_iaddN C dX6_ofPot_13 ?_
  refine j_ialdN C dX6_ofPot_14 (show ilen 85 = some 531 from rfl) (by omega) (by decide) ?_
  refine j_top C _ (m_c2 hS (by omega)) ?_
  refine j_goto C dX6_ofPot_15 (tgt := 23) (by decide) ?_
  exact j_ireturn C hret dX6_ofPot_23 ⟨congrArg (fun z => some (Value.int z)) (rfl), rfl⟩

set_option maxHeartbeats 4000000 in
set_option maxRecDepth 100000 in
theorem cm_ofPot_3 {l : Launch} {G : GG} {M : MM} {σ : Sg} (hS : Sm M 0 σ) (hW : Wf σ) {i : Nat} (hi : i < 8) : Ct l G yX6_ofPot wsX6_ofPot 7 ([.ref (G.2.2 84), .int (nI i), .int (nI 3)] : List Value) M (rI (ofP σ i 3) M) := by
  refine Ct.of (cc := cX6_ofPot) (maxL := 3) (ret := (some .int)) (lv := [(0, .ref (G.2.2 84)), (1, .int (nI i)), (2, .int (nI 3))]) (by decide) rfl rfl (Nat.le_of_ble_eq_true rfl) ?_
  intro pg ev sg mm bl mt cd AZ C hret
  refine j_iload_n C dX6_ofPot_0 rfl ?_
  refine j_iconst C dX6_ofPot_1 (v := nI 4) (by decide) ?_
  refine j_icmp_geN C dX6_ofPot_2 (tgt := 18) (by decide) (by omega) (by omega) (fun cq2 => absurd cq2 (by decide)) (fun cq2 => ?_)
  refine j_aload_n C dX6_ofPot_5 rfl ?_
  refine j_getf C dX6_ofPot_6 rfl (by decide) (T := TX6) rfl in_X6_ofPot_X6 (k := 0) (by decide) fl_X6_ofPot_7 rfl rfl ?_
  refine j_iconst C dX6_ofPot_9 (v := nI 4) (by decide) ?_
  refine j_iload_n C dX6_ofPot_10 rfl ?_
  refine j_imulN C dX6_ofPot_11 ?_
  refine j_iload_n C dX6_ofPot_12 rfl ?_
  refine j_iaddN C dX6_ofPot_13 ?_
  refine j_ialdN C dX6_ofPot_14 (show ilen 85 = some 531 from rfl) (by omega) (by decide) ?_
  refine j_top C _ (m_lb hS (by omega)) ?_
  refine j_goto C dX6_ofPot_15 (tgt := 23) (by decide) ?_
  exact j_ireturn C hret dX6_ofPot_23 ⟨congrArg (fun z => some (Value.int z)) (rfl), rfl⟩

set_option maxHeartbeats 4000000 in
set_option maxRecDepth 100000 in
theorem cm_ofPot_4 {l : Launch} {G : GG} {M : MM} {σ : Sg} (hS : Sm M 0 σ) (hW : Wf σ) {i : Nat} (hi : i < 8) : Ct l G yX6_ofPot wsX6_ofPot 7 ([.ref (G.2.2 84), .int (nI i), .int (nI 4)] : List Value) M (rI (ofP σ i 4) M) := by
  refine Ct.of (cc := cX6_ofPot) (maxL := 3) (ret := (some .int)) (lv := [(0, .ref (G.2.2 84)), (1, .int (nI i)), (2, .int (nI 4))]) (by decide) rfl rfl (Nat.le_of_ble_eq_true rfl) ?_
  intro pg ev sg mm bl mt cd AZ C hret
  refine j_iload_n C dX6_ofPot_0 rfl ?_
  refine j_iconst C dX6_ofPot_1 (v := nI 4) (by decide) ?_
  refine j_icmp_geN C dX6_ofPot_2 (tgt := 18) (by decide) (by omega) (by omega) (fun cq2 => ?_) (fun cq2 => absurd cq2 (by decide))
  refine j_aload_n C dX6_ofPot_18 rfl ?_
  refine j_iload_n C dX6_ofPot_19 rfl ?_
  refine j_callV C (cm_tellers hS hW hi) dX6_ofPot_20 rfl (by decide) (T := TX6) rfl gX6_ofPot_X6_tellers rfl kd_X6_tellers rfl rfl (Nat.le_of_ble_eq_true rfl) ⟨by decide, by decide⟩ ⟨Nat.zero_le _, Nat.zero_le _⟩ (k_I ?_)
  exact j_ireturn C hret dX6_ofPot_23 ⟨congrArg (fun z => some (Value.int z)) (rfl), rfl⟩

theorem cm_ofPot {l : Launch} {G : GG} {M : MM} {σ : Sg} (hS : Sm M 0 σ) (hW : Wf σ) {i k : Nat} (hi : i < 8) (hk : k ≤ 4) : Ct l G yX6_ofPot wsX6_ofPot 7 [.ref (G.2.2 84), .int (nI i), .int (nI k)] M (rI (ofP σ i k) M) := by
  rcases (show k = 0 ∨ k = 1 ∨ k = 2 ∨ k = 3 ∨ k = 4 by omega) with rfl | rfl | rfl | rfl | rfl
  · exact cm_ofPot_0 hS hW hi
  · exact cm_ofPot_1 hS hW hi
  · exact cm_ofPot_2 hS hW hi
  · exact cm_ofPot_3 hS hW hi
  · exact cm_ofPot_4 hS hW hi

set_option maxHeartbeats 4000000 in
set_option maxRecDepth 100000 in
theorem cm_seenBy {l : Launch} {G : GG} {M : MM} {σ : Sg} (hS : Sm M 0 σ) (hW : Wf σ) {p i : Nat} (hp : p < 4) (hi : i < 8) : Ct l G yX6_seenBy wsX6_seenBy 2 ([.ref (G.2.2 84), .int (nI p), .int (nI i)] : List Value) M (rI (nI (sen σ p i)) M) := by
  obtain ⟨hk, hs, hl⟩ := hW.2.1 p hp
  obtain ⟨q1, q2, q3, q4⟩ := hW.1 i hi
  refine Ct.of (cc := cX6_seenBy) (maxL := 5) (ret := (some .int)) (lv := [(0, .ref (G.2.2 84)), (1, .int (nI p)), (2, .int (nI i))]) (by decide) rfl rfl (Nat.le_of_ble_eq_true rfl) ?_
  intro pg ev sg mm bl mt cd AZ C hret
  refine j_iconst C dX6_seenBy_0 (v := nI 0) (by decide) ?_
  refine j_istore_n C dX6_seenBy_1 (by decide) ?_
  refine j_iconst C dX6_seenBy_2 (v := nI 0) (by decide) ?_
  refine j_istore C dX6_seenBy_3 (by decide) ?_
  have L5 : ∀ n, n ≤ 3 → J G pg l ev (rmD 2) sg mm ([.ref (G.2.2 84), .int (nI p), .int (nI i)] : List Value).toArray bl mt cd AZ 5 (MQ bl (QQ G (rI (nI (sen σ p i)) M) AZ) ([.ref (G.2.2 84), .int (nI p), .int (nI i)] : List Value).toArray sg 0 0 AZ) 0 0 5 [(0, .ref (G.2.2 84)), (1, .int (nI p)), (2, .int (nI i)), (3, .int (nI (sn3 σ p i n))), (4, .int (nI n))] [] (M) := by
    refine dnto ?_
    intro n hn5 ih5
    refine j_iload C dX6_seenBy_5 rfl ?_
    refine j_iconst C dX6_seenBy_7 (v := nI 3) (by decide) ?_
    refine j_icmp_geN C dX6_seenBy_8 (tgt := 65) (by decide) (by omega) (by omega) (fun cq8 => ?_) (fun cq8 => ?_)
    · refine j_iload_n C dX6_seenBy_65 rfl ?_
      exact j_ireturn C hret dX6_seenBy_66 ⟨congrArg (fun z => some (Value.int (nI z))) (by rw [show n = 3 by omega]; exact sn3_3 σ p i), rfl⟩
    · refine j_bipush C dX6_seenBy_11 (v := nI 10) (by decide) ?_
      refine j_iload_n C dX6_seenBy_13 rfl ?_
      refine j_imulN C dX6_seenBy_14 ?_
      refine j_aload_n C dX6_seenBy_15 rfl ?_
      refine j_getf C dX6_seenBy_16 rfl (by decide) (T := TX6) rfl in_X6_seenBy_X6 (k := 0) (by decide) fl_X6_seenBy_7 rfl rfl ?_
      refine j_iload_n C dX6_seenBy_19 rfl ?_
      refine j_callS C cm_at dX6_seenBy_20 gX6_seenBy_X6_at rfl ks_X6_at rfl rfl (Nat.le_of_ble_eq_true rfl) ⟨by decide, by decide⟩ ⟨Nat.zero_le _, Nat.zero_le _⟩ (k_I ?_)
      refine j_ialdN C dX6_seenBy_23 (show ilen 85 = some 531 from rfl) (by omega) (by decide) ?_
      refine j_top C _ (m_kd hS (by omega)) ?_
      refine j_iload C dX6_seenBy_24 rfl ?_
      refine j_aload_n C dX6_seenBy_26 rfl ?_
      refine j_getf C dX6_seenBy_27 rfl (by decide) (T := TX6) rfl in_X6_seenBy_X6 (k := 0) (by decide) fl_X6_seenBy_7 rfl rfl ?_
      refine j_iconst C dX6_seenBy_30 (v := nI 4) (by decide) ?_
      refine j_iload_n C dX6_seenBy_31 rfl ?_
      refine j_imulN C dX6_seenBy_32 ?_
      refine j_ialdN C dX6_seenBy_33 (show ilen 85 = some 531 from rfl) (by omega) (by decide) ?_
      refine j_top C _ (m_c0 hS (by omega)) ?_
      refine j_aload_n C dX6_seenBy_34 rfl ?_
      refine j_getf C dX6_seenBy_35 rfl (by decide) (T := TX6) rfl in_X6_seenBy_X6 (k := 0) (by decide) fl_X6_seenBy_7 rfl rfl ?_
      refine j_iconst C dX6_seenBy_38 (v := nI 4) (by decide) ?_
      refine j_iload_n C dX6_seenBy_39 rfl ?_
      refine j_imulN C dX6_seenBy_40 ?_
      refine j_iconst C dX6_seenBy_41 (v := nI 1) (by decide) ?_
      refine j_iaddN C dX6_seenBy_42 ?_
      refine j_ialdN C dX6_seenBy_43 (show ilen 85 = some 531 from rfl) (by omega) (by decide) ?_
      refine j_top C _ (m_c1 hS (by omega)) ?_
      refine j_aload_n C dX6_seenBy_44 rfl ?_
      refine j_getf C dX6_seenBy_45 rfl (by decide) (T := TX6) rfl in_X6_seenBy_X6 (k := 0) (by decide) fl_X6_seenBy_7 rfl rfl ?_
      refine j_iconst C dX6_seenBy_48 (v := nI 4) (by decide) ?_
      refine j_iload_n C dX6_seenBy_49 rfl ?_
      refine j_imulN C dX6_seenBy_50 ?_
      refine j_iconst C dX6_seenBy_51 (v := nI 2) (by decide) ?_
      refine j_iaddN C dX6_seenBy_52 ?_
      refine j_ialdN C dX6_seenBy_53 (show ilen 85 = some 531 from rfl) (by omega) (by decide) ?_
      refine j_top C _ (m_c2 hS (by omega)) ?_
      refine j_callS C (cm_part (by omega) (by omega) (by omega) (by omega) (by omega)) dX6_seenBy_54 gX6_seenBy_X6_part rfl ks_X6_part rfl rfl (Nat.le_of_ble_eq_true rfl) ⟨by decide, by decide⟩ ⟨Nat.zero_le _, Nat.zero_le _⟩ (k_I ?_)
      refine j_iaddN C dX6_seenBy_57 ?_
      refine j_istore_n C dX6_seenBy_58 (by decide) ?_
      refine j_iincN C dX6_seenBy_59 rfl (by decide) ?_
      refine j_goto C dX6_seenBy_62 (tgt := 5) (by decide) ?_
      exact ih5 (by omega)
  exact L5 0 (by omega)

set_option maxHeartbeats 4000000 in
set_option maxRecDepth 100000 in
theorem cm_wrong {l : Launch} {G : GG} {M : MM} {σ : Sg} (hS : Sm M 0 σ) (hW : Wf σ) {p : Nat} (hp : p < 4) : Ct l G yX6_wrong wsX6_wrong 6 ([.ref (G.2.2 84), .int (nI p)] : List Value) M (rI (nI (wrg σ p)) M) := by
  refine Ct.of (cc := cX6_wrong) (maxL := 5) (ret := (some .int)) (lv := [(0, .ref (G.2.2 84)), (1, .int (nI p))]) (by decide) rfl rfl (Nat.le_of_ble_eq_true rfl) ?_
  intro pg ev sg mm bl mt cd AZ C hret
  refine j_iconst C dX6_wrong_0 (v := nI 0) (by decide) ?_
  refine j_istore_n C dX6_wrong_1 (by decide) ?_
  refine j_iconst C dX6_wrong_2 (v := nI 0) (by decide) ?_
  refine j_istore_n C dX6_wrong_3 (by decide) ?_
  have L4 : ∀ k, k ≤ 64 → ∀ acc, acc = cntN k (wrF σ p) → J G pg l ev (rmD 6) sg mm ([.ref (G.2.2 84), .int (nI p)] : List Value).toArray bl mt cd AZ 5 (MQ bl (QQ G (rI (nI (wrg σ p)) M) AZ) ([.ref (G.2.2 84), .int (nI p)] : List Value).toArray sg 0 0 AZ) 0 0 4 [(0, .ref (G.2.2 84)), (1, .int (nI p)), (2, .int (nI acc)), (3, .int (nI k))] [] (M) := by
    refine dnto ?_
    intro k hk4 ih4 acc ha
    refine j_iload_n C dX6_wrong_4 rfl ?_
    refine j_bipush C dX6_wrong_5 (v := nI 64) (by decide) ?_
    refine j_icmp_geN C dX6_wrong_7 (tgt := 94) (by decide) (by omega) (by omega) (fun cq7 => ?_) (fun cq7 => ?_)
    · refine j_iload_n C dX6_wrong_94 rfl ?_
      exact j_ireturn C hret dX6_wrong_95 ⟨congrArg (fun z => some (Value.int (nI z))) (by rw [ha, show k = 64 by omega]; rfl), rfl⟩
    · have hl1 : k < 64 → lab σ (k / 8) ≤ 8 := fun h => (hW.1 (k / 8) (by omega)).2.2.2
      have hl2 : lab σ (k % 8) ≤ 8 := (hW.1 (k % 8) (by omega)).2.2.2
      refine j_iload_n C dX6_wrong_10 rfl ?_
      refine j_bipush C dX6_wrong_11 (v := nI 8) (by decide) ?_
      refine j_idivN C dX6_wrong_13 (by omega) (by decide) (by decide) ?_
      refine j_iload_n C dX6_wrong_14 rfl ?_
      refine j_bipush C dX6_wrong_15 (v := nI 8) (by decide) ?_
      refine j_iremN C dX6_wrong_17 (by omega) (by decide) (by decide) ?_
      refine j_icmp_geN C dX6_wrong_18 (tgt := 56) (by decide) (by omega) (by omega) (fun cq18 => ?_) (fun cq18 => ?_)
      · refine j_iconst C dX6_wrong_56 (v := nI 0) (by decide) ?_
        refine j_top C (bI (alk σ k)) (by first | exact alk_f1 cq18 | exact alk_f2 cq30 | exact alk_f3 cq49) ?_
        refine j_istore C dX6_wrong_57 (by decide) ?_
        refine j_iload_n C dX6_wrong_59 rfl ?_
        refine j_iload C dX6_wrong_60 rfl ?_
        refine j_if_eqB C dX6_wrong_62 (tgt := 85) (by decide) (fun cq62 => ?_) (fun cq62 => ?_)
        · refine j_iconst C dX6_wrong_85 (v := nI 0) (by decide) ?_
          refine j_iaddN C dX6_wrong_86 ?_
          refine j_istore_n C dX6_wrong_87 (by decide) ?_
          refine j_iincN C dX6_wrong_88 rfl (by decide) ?_
          refine j_goto C dX6_wrong_91 (tgt := 4) (by decide) ?_
          exact j_pick [0, 1, 2, 3] (ih4 (by omega) _ (by first | exact cnt_t ha ((wrF_alk σ p k).trans (by rw [cq62, cq78]; rfl)) | exact cnt_f ha ((wrF_alk σ p k).trans (by rw [cq62]; rfl)) | exact cnt_f ha ((wrF_alk σ p k).trans (by rw [cq78, Bool.and_false]))))
        · refine j_aload_n C dX6_wrong_65 rfl ?_
          refine j_iload_n C dX6_wrong_66 rfl ?_
          refine j_iload_n C dX6_wrong_67 rfl ?_
          refine j_bipush C dX6_wrong_68 (v := nI 8) (by decide) ?_
          refine j_idivN C dX6_wrong_70 (by omega) (by decide) (by decide) ?_
          refine j_iload_n C dX6_wrong_71 rfl ?_
          refine j_bipush C dX6_wrong_72 (v := nI 8) (by decide) ?_
          refine j_iremN C dX6_wrong_74 (by omega) (by decide) (by decide) ?_
          refine j_callV C (cm_areApart hS hW (by omega) (by omega) (by omega)) dX6_wrong_75 rfl (by decide) (T := TX6) rfl gX6_wrong_X6_areApart rfl kd_X6_areApart rfl rfl (Nat.le_of_ble_eq_true rfl) ⟨by decide, by decide⟩ ⟨Nat.zero_le _, Nat.zero_le _⟩ (k_I ?_)
          refine j_if_eqB C dX6_wrong_78 (tgt := 85) (by decide) (fun cq78 => ?_) (fun cq78 => ?_)
          · refine j_iconst C dX6_wrong_85 (v := nI 0) (by decide) ?_
            refine j_iaddN C dX6_wrong_86 ?_
            refine j_istore_n C dX6_wrong_87 (by decide) ?_
            refine j_iincN C dX6_wrong_88 rfl (by decide) ?_
            refine j_goto C dX6_wrong_91 (tgt := 4) (by decide) ?_
            exact j_pick [0, 1, 2, 3] (ih4 (by omega) _ (by first | exact cnt_t ha ((wrF_alk σ p k).trans (by rw [cq62, cq78]; rfl)) | exact cnt_f ha ((wrF_alk σ p k).trans (by rw [cq62]; rfl)) | exact cnt_f ha ((wrF_alk σ p k).trans (by rw [cq78, Bool.and_false]))))
          · refine j_iconst C dX6_wrong_81 (v := nI 1) (by decide) ?_
            refine j_goto C dX6_wrong_82 (tgt := 86) (by decide) ?_
            refine j_iaddN C dX6_wrong_86 ?_
            refine j_istore_n C dX6_wrong_87 (by decide) ?_
            refine j_iincN C dX6_wrong_88 rfl (by decide) ?_
            refine j_goto C dX6_wrong_91 (tgt := 4) (by decide) ?_
            exact j_pick [0, 1, 2, 3] (ih4 (by omega) _ (by first | exact cnt_t ha ((wrF_alk σ p k).trans (by rw [cq62, cq78]; rfl)) | exact cnt_f ha ((wrF_alk σ p k).trans (by rw [cq62]; rfl)) | exact cnt_f ha ((wrF_alk σ p k).trans (by rw [cq78, Bool.and_false]))))
      · refine j_aload_n C dX6_wrong_21 rfl ?_
        refine j_iload_n C dX6_wrong_22 rfl ?_
        refine j_bipush C dX6_wrong_23 (v := nI 8) (by decide) ?_
        refine j_idivN C dX6_wrong_25 (by omega) (by decide) (by decide) ?_
        refine j_callV C (cm_labelOf hS hW (by omega)) dX6_wrong_26 rfl (by decide) (T := TX6) rfl gX6_wrong_X6_labelOf rfl kd_X6_labelOf rfl rfl (Nat.le_of_ble_eq_true rfl) ⟨by decide, by decide⟩ ⟨Nat.zero_le _, Nat.zero_le _⟩ (k_I ?_)
        refine j_iconst C dX6_wrong_29 (v := -1) (by decide) ?_
        refine j_icmp_eqO C dX6_wrong_30 (tgt := 56) (by decide) (by omega) (fun cq30 => ?_) (fun cq30 => ?_)
        · refine j_iconst C dX6_wrong_56 (v := nI 0) (by decide) ?_
          refine j_top C (bI (alk σ k)) (by first | exact alk_f1 cq18 | exact alk_f2 cq30 | exact alk_f3 cq49) ?_
          refine j_istore C dX6_wrong_57 (by decide) ?_
          refine j_iload_n C dX6_wrong_59 rfl ?_
          refine j_iload C dX6_wrong_60 rfl ?_
          refine j_if_eqB C dX6_wrong_62 (tgt := 85) (by decide) (fun cq62 => ?_) (fun cq62 => ?_)
          · refine j_iconst C dX6_wrong_85 (v := nI 0) (by decide) ?_
            refine j_iaddN C dX6_wrong_86 ?_
            refine j_istore_n C dX6_wrong_87 (by decide) ?_
            refine j_iincN C dX6_wrong_88 rfl (by decide) ?_
            refine j_goto C dX6_wrong_91 (tgt := 4) (by decide) ?_
            exact j_pick [0, 1, 2, 3] (ih4 (by omega) _ (by first | exact cnt_t ha ((wrF_alk σ p k).trans (by rw [cq62, cq78]; rfl)) | exact cnt_f ha ((wrF_alk σ p k).trans (by rw [cq62]; rfl)) | exact cnt_f ha ((wrF_alk σ p k).trans (by rw [cq78, Bool.and_false]))))
          · refine j_aload_n C dX6_wrong_65 rfl ?_
            refine j_iload_n C dX6_wrong_66 rfl ?_
            refine j_iload_n C dX6_wrong_67 rfl ?_
            refine j_bipush C dX6_wrong_68 (v := nI 8) (by decide) ?_
            refine j_idivN C dX6_wrong_70 (by omega) (by decide) (by decide) ?_
            refine j_iload_n C dX6_wrong_71 rfl ?_
            refine j_bipush C dX6_wrong_72 (v := nI 8) (by decide) ?_
            refine j_iremN C dX6_wrong_74 (by omega) (by decide) (by decide) ?_
            refine j_callV C (cm_areApart hS hW (by omega) (by omega) (by omega)) dX6_wrong_75 rfl (by decide) (T := TX6) rfl gX6_wrong_X6_areApart rfl kd_X6_areApart rfl rfl (Nat.le_of_ble_eq_true rfl) ⟨by decide, by decide⟩ ⟨Nat.zero_le _, Nat.zero_le _⟩ (k_I ?_)
            refine j_if_eqB C dX6_wrong_78 (tgt := 85) (by decide) (fun cq78 => ?_) (fun cq78 => ?_)
            · refine j_iconst C dX6_wrong_85 (v := nI 0) (by decide) ?_
              refine j_iaddN C dX6_wrong_86 ?_
              refine j_istore_n C dX6_wrong_87 (by decide) ?_
              refine j_iincN C dX6_wrong_88 rfl (by decide) ?_
              refine j_goto C dX6_wrong_91 (tgt := 4) (by decide) ?_
              exact j_pick [0, 1, 2, 3] (ih4 (by omega) _ (by first | exact cnt_t ha ((wrF_alk σ p k).trans (by rw [cq62, cq78]; rfl)) | exact cnt_f ha ((wrF_alk σ p k).trans (by rw [cq62]; rfl)) | exact cnt_f ha ((wrF_alk σ p k).trans (by rw [cq78, Bool.and_false]))))
            · refine j_iconst C dX6_wrong_81 (v := nI 1) (by decide) ?_
              refine j_goto C dX6_wrong_82 (tgt := 86) (by decide) ?_
              refine j_iaddN C dX6_wrong_86 ?_
              refine j_istore_n C dX6_wrong_87 (by decide) ?_
              refine j_iincN C dX6_wrong_88 rfl (by decide) ?_
              refine j_goto C dX6_wrong_91 (tgt := 4) (by decide) ?_
              exact j_pick [0, 1, 2, 3] (ih4 (by omega) _ (by first | exact cnt_t ha ((wrF_alk σ p k).trans (by rw [cq62, cq78]; rfl)) | exact cnt_f ha ((wrF_alk σ p k).trans (by rw [cq62]; rfl)) | exact cnt_f ha ((wrF_alk σ p k).trans (by rw [cq78, Bool.and_false]))))
        · refine j_aload_n C dX6_wrong_33 rfl ?_
          refine j_iload_n C dX6_wrong_34 rfl ?_
          refine j_bipush C dX6_wrong_35 (v := nI 8) (by decide) ?_
          refine j_idivN C dX6_wrong_37 (by omega) (by decide) (by decide) ?_
          refine j_callV C (cm_labelOf hS hW (by omega)) dX6_wrong_38 rfl (by decide) (T := TX6) rfl gX6_wrong_X6_labelOf rfl kd_X6_labelOf rfl rfl (Nat.le_of_ble_eq_true rfl) ⟨by decide, by decide⟩ ⟨Nat.zero_le _, Nat.zero_le _⟩ (k_I ?_)
          refine j_aload_n C dX6_wrong_41 rfl ?_
          refine j_iload_n C dX6_wrong_42 rfl ?_
          refine j_bipush C dX6_wrong_43 (v := nI 8) (by decide) ?_
          refine j_iremN C dX6_wrong_45 (by omega) (by decide) (by decide) ?_
          refine j_callV C (cm_labelOf hS hW (by omega)) dX6_wrong_46 rfl (by decide) (T := TX6) rfl gX6_wrong_X6_labelOf rfl kd_X6_labelOf rfl rfl (Nat.le_of_ble_eq_true rfl) ⟨by decide, by decide⟩ ⟨Nat.zero_le _, Nat.zero_le _⟩ (k_I ?_)
          refine j_icmp_neOO C dX6_wrong_49 (tgt := 56) (by decide) (by omega) (by omega) (fun cq49 => ?_) (fun cq49 => ?_)
          · refine j_iconst C dX6_wrong_56 (v := nI 0) (by decide) ?_
            refine j_top C (bI (alk σ k)) (by first | exact alk_f1 cq18 | exact alk_f2 cq30 | exact alk_f3 cq49) ?_
            refine j_istore C dX6_wrong_57 (by decide) ?_
            refine j_iload_n C dX6_wrong_59 rfl ?_
            refine j_iload C dX6_wrong_60 rfl ?_
            refine j_if_eqB C dX6_wrong_62 (tgt := 85) (by decide) (fun cq62 => ?_) (fun cq62 => ?_)
            · refine j_iconst C dX6_wrong_85 (v := nI 0) (by decide) ?_
              refine j_iaddN C dX6_wrong_86 ?_
              refine j_istore_n C dX6_wrong_87 (by decide) ?_
              refine j_iincN C dX6_wrong_88 rfl (by decide) ?_
              refine j_goto C dX6_wrong_91 (tgt := 4) (by decide) ?_
              exact j_pick [0, 1, 2, 3] (ih4 (by omega) _ (by first | exact cnt_t ha ((wrF_alk σ p k).trans (by rw [cq62, cq78]; rfl)) | exact cnt_f ha ((wrF_alk σ p k).trans (by rw [cq62]; rfl)) | exact cnt_f ha ((wrF_alk σ p k).trans (by rw [cq78, Bool.and_false]))))
            · refine j_aload_n C dX6_wrong_65 rfl ?_
              refine j_iload_n C dX6_wrong_66 rfl ?_
              refine j_iload_n C dX6_wrong_67 rfl ?_
              refine j_bipush C dX6_wrong_68 (v := nI 8) (by decide) ?_
              refine j_idivN C dX6_wrong_70 (by omega) (by decide) (by decide) ?_
              refine j_iload_n C dX6_wrong_71 rfl ?_
              refine j_bipush C dX6_wrong_72 (v := nI 8) (by decide) ?_
              refine j_iremN C dX6_wrong_74 (by omega) (by decide) (by decide) ?_
              refine j_callV C (cm_areApart hS hW (by omega) (by omega) (by omega)) dX6_wrong_75 rfl (by decide) (T := TX6) rfl gX6_wrong_X6_areApart rfl kd_X6_areApart rfl rfl (Nat.le_of_ble_eq_true rfl) ⟨by decide, by decide⟩ ⟨Nat.zero_le _, Nat.zero_le _⟩ (k_I ?_)
              refine j_if_eqB C dX6_wrong_78 (tgt := 85) (by decide) (fun cq78 => ?_) (fun cq78 => ?_)
              · refine j_iconst C dX6_wrong_85 (v := nI 0) (by decide) ?_
                refine j_iaddN C dX6_wrong_86 ?_
                refine j_istore_n C dX6_wrong_87 (by decide) ?_
                refine j_iincN C dX6_wrong_88 rfl (by decide) ?_
                refine j_goto C dX6_wrong_91 (tgt := 4) (by decide) ?_
                exact j_pick [0, 1, 2, 3] (ih4 (by omega) _ (by first | exact cnt_t ha ((wrF_alk σ p k).trans (by rw [cq62, cq78]; rfl)) | exact cnt_f ha ((wrF_alk σ p k).trans (by rw [cq62]; rfl)) | exact cnt_f ha ((wrF_alk σ p k).trans (by rw [cq78, Bool.and_false]))))
              · refine j_iconst C dX6_wrong_81 (v := nI 1) (by decide) ?_
                refine j_goto C dX6_wrong_82 (tgt := 86) (by decide) ?_
                refine j_iaddN C dX6_wrong_86 ?_
                refine j_istore_n C dX6_wrong_87 (by decide) ?_
                refine j_iincN C dX6_wrong_88 rfl (by decide) ?_
                refine j_goto C dX6_wrong_91 (tgt := 4) (by decide) ?_
                exact j_pick [0, 1, 2, 3] (ih4 (by omega) _ (by first | exact cnt_t ha ((wrF_alk σ p k).trans (by rw [cq62, cq78]; rfl)) | exact cnt_f ha ((wrF_alk σ p k).trans (by rw [cq62]; rfl)) | exact cnt_f ha ((wrF_alk σ p k).trans (by rw [cq78, Bool.and_false]))))
          · refine j_iconst C dX6_wrong_52 (v := nI 1) (by decide) ?_
            refine j_top C (bI (alk σ k)) (alk_t cq18 cq30 cq49) ?_
            refine j_goto C dX6_wrong_53 (tgt := 57) (by decide) ?_
            refine j_istore C dX6_wrong_57 (by decide) ?_
            refine j_iload_n C dX6_wrong_59 rfl ?_
            refine j_iload C dX6_wrong_60 rfl ?_
            refine j_if_eqB C dX6_wrong_62 (tgt := 85) (by decide) (fun cq62 => ?_) (fun cq62 => ?_)
            · refine j_iconst C dX6_wrong_85 (v := nI 0) (by decide) ?_
              refine j_iaddN C dX6_wrong_86 ?_
              refine j_istore_n C dX6_wrong_87 (by decide) ?_
              refine j_iincN C dX6_wrong_88 rfl (by decide) ?_
              refine j_goto C dX6_wrong_91 (tgt := 4) (by decide) ?_
              exact j_pick [0, 1, 2, 3] (ih4 (by omega) _ (by first | exact cnt_t ha ((wrF_alk σ p k).trans (by rw [cq62, cq78]; rfl)) | exact cnt_f ha ((wrF_alk σ p k).trans (by rw [cq62]; rfl)) | exact cnt_f ha ((wrF_alk σ p k).trans (by rw [cq78, Bool.and_false]))))
            · refine j_aload_n C dX6_wrong_65 rfl ?_
              refine j_iload_n C dX6_wrong_66 rfl ?_
              refine j_iload_n C dX6_wrong_67 rfl ?_
              refine j_bipush C dX6_wrong_68 (v := nI 8) (by decide) ?_
              refine j_idivN C dX6_wrong_70 (by omega) (by decide) (by decide) ?_
              refine j_iload_n C dX6_wrong_71 rfl ?_
              refine j_bipush C dX6_wrong_72 (v := nI 8) (by decide) ?_
              refine j_iremN C dX6_wrong_74 (by omega) (by decide) (by decide) ?_
              refine j_callV C (cm_areApart hS hW (by omega) (by omega) (by omega)) dX6_wrong_75 rfl (by decide) (T := TX6) rfl gX6_wrong_X6_areApart rfl kd_X6_areApart rfl rfl (Nat.le_of_ble_eq_true rfl) ⟨by decide, by decide⟩ ⟨Nat.zero_le _, Nat.zero_le _⟩ (k_I ?_)
              refine j_if_eqB C dX6_wrong_78 (tgt := 85) (by decide) (fun cq78 => ?_) (fun cq78 => ?_)
              · refine j_iconst C dX6_wrong_85 (v := nI 0) (by decide) ?_
                refine j_iaddN C dX6_wrong_86 ?_
                refine j_istore_n C dX6_wrong_87 (by decide) ?_
                refine j_iincN C dX6_wrong_88 rfl (by decide) ?_
                refine j_goto C dX6_wrong_91 (tgt := 4) (by decide) ?_
                exact j_pick [0, 1, 2, 3] (ih4 (by omega) _ (by first | exact cnt_t ha ((wrF_alk σ p k).trans (by rw [cq62, cq78]; rfl)) | exact cnt_f ha ((wrF_alk σ p k).trans (by rw [cq62]; rfl)) | exact cnt_f ha ((wrF_alk σ p k).trans (by rw [cq78, Bool.and_false]))))
              · refine j_iconst C dX6_wrong_81 (v := nI 1) (by decide) ?_
                refine j_goto C dX6_wrong_82 (tgt := 86) (by decide) ?_
                refine j_iaddN C dX6_wrong_86 ?_
                refine j_istore_n C dX6_wrong_87 (by decide) ?_
                refine j_iincN C dX6_wrong_88 rfl (by decide) ?_
                refine j_goto C dX6_wrong_91 (tgt := 4) (by decide) ?_
                exact j_pick [0, 1, 2, 3] (ih4 (by omega) _ (by first | exact cnt_t ha ((wrF_alk σ p k).trans (by rw [cq62, cq78]; rfl)) | exact cnt_f ha ((wrF_alk σ p k).trans (by rw [cq62]; rfl)) | exact cnt_f ha ((wrF_alk σ p k).trans (by rw [cq78, Bool.and_false]))))
  exact L4 0 (by omega) 0 rfl

set_option maxHeartbeats 4000000 in
set_option maxRecDepth 100000 in
theorem cm_chartsRead {l : Launch} {G : GG} {M : MM} {σ : Sg} (hS : Sm M 0 σ) (hW : Wf σ) {p : Nat} (hp : p < 4) : Ct l G yX6_chartsRead wsX6_chartsRead 7 ([.ref (G.2.2 84), .int (nI p)] : List Value) M (rI (nI (crd σ p)) M) := by
  have h44 := hW.2.2.1
  refine Ct.of (cc := cX6_chartsRead) (maxL := 4) (ret := (some .int)) (lv := [(0, .ref (G.2.2 84)), (1, .int (nI p))]) (by decide) rfl rfl (Nat.le_of_ble_eq_true rfl) ?_
  intro pg ev sg mm bl mt cd AZ C hret
  refine j_iconst C dX6_chartsRead_0 (v := nI 0) (by decide) ?_
  refine j_istore_n C dX6_chartsRead_1 (by decide) ?_
  refine j_iconst C dX6_chartsRead_2 (v := nI 0) (by decide) ?_
  refine j_istore_n C dX6_chartsRead_3 (by decide) ?_
  have L4 : ∀ i, i ≤ σ 44 → ∀ acc, acc = cntN i (crF σ p) → J G pg l ev (rmD 7) sg mm ([.ref (G.2.2 84), .int (nI p)] : List Value).toArray bl mt cd AZ 4 (MQ bl (QQ G (rI (nI (crd σ p)) M) AZ) ([.ref (G.2.2 84), .int (nI p)] : List Value).toArray sg 0 0 AZ) 0 0 4 [(0, .ref (G.2.2 84)), (1, .int (nI p)), (2, .int (nI acc)), (3, .int (nI i))] [] (M) := by
    refine dnto ?_
    intro i hi4 ih4 acc ha
    refine j_iload_n C dX6_chartsRead_4 rfl ?_
    refine j_aload_n C dX6_chartsRead_5 rfl ?_
    refine j_getf C dX6_chartsRead_6 rfl (by decide) (T := TX6) rfl in_X6_chartsRead_X6 (k := 0) (by decide) fl_X6_chartsRead_7 rfl rfl ?_
    refine j_bipush C dX6_chartsRead_9 (v := nI 44) (by decide) ?_
    refine j_ialdN C dX6_chartsRead_11 (show ilen 85 = some 531 from rfl) (by omega) (by decide) ?_
    refine j_top C _ (m_ch hS) ?_
    refine j_icmp_geN C dX6_chartsRead_12 (tgt := 38) (by decide) (by omega) (by omega) (fun cq12 => ?_) (fun cq12 => ?_)
    · refine j_iload_n C dX6_chartsRead_38 rfl ?_
      exact j_ireturn C hret dX6_chartsRead_39 ⟨congrArg (fun z => some (Value.int (nI z))) (by rw [ha, show i = σ 44 by omega]; rfl), rfl⟩
    · refine j_iload_n C dX6_chartsRead_15 rfl ?_
      refine j_aload_n C dX6_chartsRead_16 rfl ?_
      refine j_iload_n C dX6_chartsRead_17 rfl ?_
      refine j_iload_n C dX6_chartsRead_18 rfl ?_
      refine j_callV C (cm_reads hS hW (by omega) (by omega)) dX6_chartsRead_19 rfl (by decide) (T := TX6) rfl gX6_chartsRead_X6_reads rfl kd_X6_reads rfl rfl (Nat.le_of_ble_eq_true rfl) ⟨by decide, by decide⟩ ⟨Nat.zero_le _, Nat.zero_le _⟩ (k_I ?_)
      refine j_if_eqB C dX6_chartsRead_22 (tgt := 29) (by decide) (fun cq22 => ?_) (fun cq22 => ?_)
      · refine j_iconst C dX6_chartsRead_29 (v := nI 0) (by decide) ?_
        refine j_iaddN C dX6_chartsRead_30 ?_
        refine j_istore_n C dX6_chartsRead_31 (by decide) ?_
        refine j_iincN C dX6_chartsRead_32 rfl (by decide) ?_
        refine j_goto C dX6_chartsRead_35 (tgt := 4) (by decide) ?_
        exact ih4 (by omega) _ (by first | exact cnt_t ha cq22 | exact cnt_f ha cq22)
      · refine j_iconst C dX6_chartsRead_25 (v := nI 1) (by decide) ?_
        refine j_goto C dX6_chartsRead_26 (tgt := 30) (by decide) ?_
        refine j_iaddN C dX6_chartsRead_30 ?_
        refine j_istore_n C dX6_chartsRead_31 (by decide) ?_
        refine j_iincN C dX6_chartsRead_32 rfl (by decide) ?_
        refine j_goto C dX6_chartsRead_35 (tgt := 4) (by decide) ?_
        exact ih4 (by omega) _ (by first | exact cnt_t ha cq22 | exact cnt_f ha cq22)
  exact L4 0 (by omega) 0 rfl

set_option maxHeartbeats 4000000 in
set_option maxRecDepth 100000 in
theorem cm_ofPainter_0 {l : Launch} {G : GG} {M : MM} {σ : Sg} (hS : Sm M 0 σ) (hW : Wf σ) {p : Nat} (hp : p < 4) : Ct l G yX6_ofPainter wsX6_ofPainter 8 ([.ref (G.2.2 84), .int (nI p), .int (nI 0)] : List Value) M (rI (ofN σ p 0) M) := by
  obtain ⟨hk, hs, hl⟩ := hW.2.1 p hp
  refine Ct.of (cc := cX6_ofPainter) (maxL := 3) (ret := (some .int)) (lv := [(0, .ref (G.2.2 84)), (1, .int (nI p)), (2, .int (nI 0))]) (by decide) rfl rfl (Nat.le_of_ble_eq_true rfl) ?_
  intro pg ev sg mm bl mt cd AZ C hret
  refine j_iload_n C dX6_ofPainter_0 rfl ?_
  refine j_tableIn C dX6_ofPainter_1 (off := 39) (tgt := 40) (by decide) (by decide) (by decide) (by decide) ?_
  refine j_aload_n C dX6_ofPainter_40 rfl ?_
  refine j_getf C dX6_ofPainter_41 rfl (by decide) (T := TX6) rfl in_X6_ofPainter_X6 (k := 0) (by decide) fl_X6_ofPainter_7 rfl rfl ?_
  refine j_iload_n C dX6_ofPainter_44 rfl ?_
  refine j_callS C cm_at dX6_ofPainter_45 gX6_ofPainter_X6_at rfl ks_X6_at rfl rfl (Nat.le_of_ble_eq_true rfl) ⟨by decide, by decide⟩ ⟨Nat.zero_le _, Nat.zero_le _⟩ (k_I ?_)
  refine j_iload_n C dX6_ofPainter_48 rfl ?_
  refine j_iaddN C dX6_ofPainter_49 ?_
  refine j_ialdN C dX6_ofPainter_50 (show ilen 85 = some 531 from rfl) (by omega) (by decide) ?_
  refine j_top C _ (m_kd hS (by omega)) ?_
  exact j_ireturn C hret dX6_ofPainter_51 ⟨rfl, rfl⟩

set_option maxHeartbeats 4000000 in
set_option maxRecDepth 100000 in
theorem cm_ofPainter_1 {l : Launch} {G : GG} {M : MM} {σ : Sg} (hS : Sm M 0 σ) (hW : Wf σ) {p : Nat} (hp : p < 4) : Ct l G yX6_ofPainter wsX6_ofPainter 8 ([.ref (G.2.2 84), .int (nI p), .int (nI 1)] : List Value) M (rI (ofN σ p 1) M) := by
  obtain ⟨hk, hs, hl⟩ := hW.2.1 p hp
  refine Ct.of (cc := cX6_ofPainter) (maxL := 3) (ret := (some .int)) (lv := [(0, .ref (G.2.2 84)), (1, .int (nI p)), (2, .int (nI 1))]) (by decide) rfl rfl (Nat.le_of_ble_eq_true rfl) ?_
  intro pg ev sg mm bl mt cd AZ C hret
  refine j_iload_n C dX6_ofPainter_0 rfl ?_
  refine j_tableIn C dX6_ofPainter_1 (off := 39) (tgt := 40) (by decide) (by decide) (by decide) (by decide) ?_
  refine j_aload_n C dX6_ofPainter_40 rfl ?_
  refine j_getf C dX6_ofPainter_41 rfl (by decide) (T := TX6) rfl in_X6_ofPainter_X6 (k := 0) (by decide) fl_X6_ofPainter_7 rfl rfl ?_
  refine j_iload_n C dX6_ofPainter_44 rfl ?_
  refine j_callS C cm_at dX6_ofPainter_45 gX6_ofPainter_X6_at rfl ks_X6_at rfl rfl (Nat.le_of_ble_eq_true rfl) ⟨by decide, by decide⟩ ⟨Nat.zero_le _, Nat.zero_le _⟩ (k_I ?_)
  refine j_iload_n C dX6_ofPainter_48 rfl ?_
  refine j_iaddN C dX6_ofPainter_49 ?_
  refine j_ialdN C dX6_ofPainter_50 (show ilen 85 = some 531 from rfl) (by omega) (by decide) ?_
  refine j_top C _ (m_sh hS (by omega)) ?_
  exact j_ireturn C hret dX6_ofPainter_51 ⟨rfl, rfl⟩

set_option maxHeartbeats 4000000 in
set_option maxRecDepth 100000 in
theorem cm_ofPainter_2 {l : Launch} {G : GG} {M : MM} {σ : Sg} (hS : Sm M 0 σ) (hW : Wf σ) {p : Nat} (hp : p < 4) : Ct l G yX6_ofPainter wsX6_ofPainter 8 ([.ref (G.2.2 84), .int (nI p), .int (nI 2)] : List Value) M (rI (ofN σ p 2) M) := by
  obtain ⟨hk, hs, hl⟩ := hW.2.1 p hp
  refine Ct.of (cc := cX6_ofPainter) (maxL := 3) (ret := (some .int)) (lv := [(0, .ref (G.2.2 84)), (1, .int (nI p)), (2, .int (nI 2))]) (by decide) rfl rfl (Nat.le_of_ble_eq_true rfl) ?_
  intro pg ev sg mm bl mt cd AZ C hret
  refine j_iload_n C dX6_ofPainter_0 rfl ?_
  refine j_tableIn C dX6_ofPainter_1 (off := 39) (tgt := 40) (by decide) (by decide) (by decide) (by decide) ?_
  refine j_aload_n C dX6_ofPainter_40 rfl ?_
  refine j_getf C dX6_ofPainter_41 rfl (by decide) (T := TX6) rfl in_X6_ofPainter_X6 (k := 0) (by decide) fl_X6_ofPainter_7 rfl rfl ?_
  refine j_iload_n C dX6_ofPainter_44 rfl ?_
  refine j_callS C cm_at dX6_ofPainter_45 gX6_ofPainter_X6_at rfl ks_X6_at rfl rfl (Nat.le_of_ble_eq_true rfl) ⟨by decide, by decide⟩ ⟨Nat.zero_le _, Nat.zero_le _⟩ (k_I ?_)
  refine j_iload_n C dX6_ofPainter_48 rfl ?_
  refine j_iaddN C dX6_ofPainter_49 ?_
  refine j_ialdN C dX6_ofPainter_50 (show ilen 85 = some 531 from rfl) (by omega) (by decide) ?_
  refine j_top C _ (m_ln hS (by omega)) ?_
  exact j_ireturn C hret dX6_ofPainter_51 ⟨rfl, rfl⟩

set_option maxHeartbeats 4000000 in
set_option maxRecDepth 100000 in
theorem cm_ofPainter_3 {l : Launch} {G : GG} {M : MM} {σ : Sg} (hS : Sm M 0 σ) (hW : Wf σ) {p : Nat} (hp : p < 4) : Ct l G yX6_ofPainter wsX6_ofPainter 8 ([.ref (G.2.2 84), .int (nI p), .int (nI 3)] : List Value) M (rI (ofN σ p 3) M) := by
  obtain ⟨hk, hs, hl⟩ := hW.2.1 p hp
  refine Ct.of (cc := cX6_ofPainter) (maxL := 3) (ret := (some .int)) (lv := [(0, .ref (G.2.2 84)), (1, .int (nI p)), (2, .int (nI 3))]) (by decide) rfl rfl (Nat.le_of_ble_eq_true rfl) ?_
  intro pg ev sg mm bl mt cd AZ C hret
  refine j_iload_n C dX6_ofPainter_0 rfl ?_
  refine j_tableIn C dX6_ofPainter_1 (off := 51) (tgt := 52) (by decide) (by decide) (by decide) (by decide) ?_
  refine j_aload_n C dX6_ofPainter_52 rfl ?_
  refine j_iload_n C dX6_ofPainter_53 rfl ?_
  refine j_callV C (cm_pairs hS hW (by omega)) dX6_ofPainter_54 rfl (by decide) (T := TX6) rfl gX6_ofPainter_X6_pairs rfl kd_X6_pairs rfl rfl (Nat.le_of_ble_eq_true rfl) ⟨by decide, by decide⟩ ⟨Nat.zero_le _, Nat.zero_le _⟩ (k_I ?_)
  exact j_ireturn C hret dX6_ofPainter_57 ⟨rfl, rfl⟩

set_option maxHeartbeats 4000000 in
set_option maxRecDepth 100000 in
theorem cm_ofPainter_4 {l : Launch} {G : GG} {M : MM} {σ : Sg} (hS : Sm M 0 σ) (hW : Wf σ) {p : Nat} (hp : p < 4) : Ct l G yX6_ofPainter wsX6_ofPainter 8 ([.ref (G.2.2 84), .int (nI p), .int (nI 4)] : List Value) M (rI (ofN σ p 4) M) := by
  obtain ⟨hk, hs, hl⟩ := hW.2.1 p hp
  refine Ct.of (cc := cX6_ofPainter) (maxL := 3) (ret := (some .int)) (lv := [(0, .ref (G.2.2 84)), (1, .int (nI p)), (2, .int (nI 4))]) (by decide) rfl rfl (Nat.le_of_ble_eq_true rfl) ?_
  intro pg ev sg mm bl mt cd AZ C hret
  refine j_iload_n C dX6_ofPainter_0 rfl ?_
  refine j_tableIn C dX6_ofPainter_1 (off := 57) (tgt := 58) (by decide) (by decide) (by decide) (by decide) ?_
  refine j_aload_n C dX6_ofPainter_58 rfl ?_
  refine j_iload_n C dX6_ofPainter_59 rfl ?_
  refine j_callV C (cm_wrong hS hW (by omega)) dX6_ofPainter_60 rfl (by decide) (T := TX6) rfl gX6_ofPainter_X6_wrong rfl kd_X6_wrong rfl rfl (Nat.le_of_ble_eq_true rfl) ⟨by decide, by decide⟩ ⟨Nat.zero_le _, Nat.zero_le _⟩ (k_I ?_)
  exact j_ireturn C hret dX6_ofPainter_63 ⟨rfl, rfl⟩

set_option maxHeartbeats 4000000 in
set_option maxRecDepth 100000 in
theorem cm_ofPainter_5 {l : Launch} {G : GG} {M : MM} {σ : Sg} (hS : Sm M 0 σ) (hW : Wf σ) {p : Nat} (hp : p < 4) : Ct l G yX6_ofPainter wsX6_ofPainter 8 ([.ref (G.2.2 84), .int (nI p), .int (nI 5)] : List Value) M (rI (ofN σ p 5) M) := by
  obtain ⟨hk, hs, hl⟩ := hW.2.1 p hp
  refine Ct.of (cc := cX6_ofPainter) (maxL := 3) (ret := (some .int)) (lv := [(0, .ref (G.2.2 84)), (1, .int (nI p)), (2, .int (nI 5))]) (by decide) rfl rfl (Nat.le_of_ble_eq_true rfl) ?_
  intro pg ev sg mm bl mt cd AZ C hret
  refine j_iload_n C dX6_ofPainter_0 rfl ?_
  refine j_tableIn C dX6_ofPainter_1 (off := 63) (tgt := 64) (by decide) (by decide) (by decide) (by decide) ?_
  refine j_aload_n C dX6_ofPainter_64 rfl ?_
  refine j_iload_n C dX6_ofPainter_65 rfl ?_
  refine j_callV C (cm_wrong hS hW (by omega)) dX6_ofPainter_66 rfl (by decide) (T := TX6) rfl gX6_ofPainter_X6_wrong rfl kd_X6_wrong rfl rfl (Nat.le_of_ble_eq_true rfl) ⟨by decide, by decide⟩ ⟨Nat.zero_le _, Nat.zero_le _⟩ (k_I ?_)
  refine j_if_neN C dX6_ofPainter_69 (tgt := 76) (by decide) (Nat.lt_of_le_of_lt (cntN_le _ 64) (by decide)) (fun cq69 => ?_) (fun cq69 => ?_)
  · refine j_iconst C dX6_ofPainter_76 (v := nI 0) (by decide) ?_
    refine j_top C (bI (decide (wrg σ p = 0))) (by rw [decide_eq_false cq69]; rfl) ?_
    exact j_ireturn C hret dX6_ofPainter_77 ⟨rfl, rfl⟩
  · refine j_iconst C dX6_ofPainter_72 (v := nI 1) (by decide) ?_
    refine j_top C (bI (decide (wrg σ p = 0))) (by rw [decide_eq_true cq69]; rfl) ?_
    refine j_goto C dX6_ofPainter_73 (tgt := 77) (by decide) ?_
    exact j_ireturn C hret dX6_ofPainter_77 ⟨rfl, rfl⟩

set_option maxHeartbeats 4000000 in
set_option maxRecDepth 100000 in
theorem cm_ofPainter_6 {l : Launch} {G : GG} {M : MM} {σ : Sg} (hS : Sm M 0 σ) (hW : Wf σ) {p : Nat} (hp : p < 4) : Ct l G yX6_ofPainter wsX6_ofPainter 8 ([.ref (G.2.2 84), .int (nI p), .int (nI 6)] : List Value) M (rI (ofN σ p 6) M) := by
  obtain ⟨hk, hs, hl⟩ := hW.2.1 p hp
  refine Ct.of (cc := cX6_ofPainter) (maxL := 3) (ret := (some .int)) (lv := [(0, .ref (G.2.2 84)), (1, .int (nI p)), (2, .int (nI 6))]) (by decide) rfl rfl (Nat.le_of_ble_eq_true rfl) ?_
  intro pg ev sg mm bl mt cd AZ C hret
  refine j_iload_n C dX6_ofPainter_0 rfl ?_
  refine j_tableOut C dX6_ofPainter_1 (tgt := 78) (by decide) (by decide) ?_
  refine j_aload_n C dX6_ofPainter_78 rfl ?_
  refine j_iload_n C dX6_ofPainter_79 rfl ?_
  refine j_callV C (cm_chartsRead hS hW (by omega)) dX6_ofPainter_80 rfl (by decide) (T := TX6) rfl gX6_ofPainter_X6_chartsRead rfl kd_X6_chartsRead rfl rfl (Nat.le_of_ble_eq_true rfl) ⟨by decide, by decide⟩ ⟨Nat.zero_le _, Nat.zero_le _⟩ (k_I ?_)
  exact j_ireturn C hret dX6_ofPainter_83 ⟨rfl, rfl⟩

theorem cm_ofPainter {l : Launch} {G : GG} {M : MM} {σ : Sg} (hS : Sm M 0 σ) (hW : Wf σ) {p k : Nat} (hp : p < 4) (hk : k ≤ 6) : Ct l G yX6_ofPainter wsX6_ofPainter 8 [.ref (G.2.2 84), .int (nI p), .int (nI k)] M (rI (ofN σ p k) M) := by
  rcases (show k = 0 ∨ k = 1 ∨ k = 2 ∨ k = 3 ∨ k = 4 ∨ k = 5 ∨ k = 6 by omega) with rfl | rfl | rfl | rfl | rfl | rfl | rfl
  · exact cm_ofPainter_0 hS hW hp
  · exact cm_ofPainter_1 hS hW hp
  · exact cm_ofPainter_2 hS hW hp
  · exact cm_ofPainter_3 hS hW hp
  · exact cm_ofPainter_4 hS hW hp
  · exact cm_ofPainter_5 hS hW hp
  · exact cm_ofPainter_6 hS hW hp

set_option maxHeartbeats 4000000 in
set_option maxRecDepth 100000 in
theorem cm_ofChart_0 {l : Launch} {G : GG} {M : MM} {σ : Sg} (hS : Sm M 0 σ) (hW : Wf σ) {ch : Nat} (hc : ch < 6) : Ct l G yX6_ofChart wsX6_ofChart 8 ([.ref (G.2.2 84), .int (nI ch), .int (nI 0)] : List Value) M (rI (ofC σ ch 0) M) := by
  refine Ct.of (cc := cX6_ofChart) (maxL := 3) (ret := (some .int)) (lv := [(0, .ref (G.2.2 84)), (1, .int (nI ch)), (2, .int (nI 0))]) (by decide) rfl rfl (Nat.le_of_ble_eq_true rfl) ?_
  intro pg ev sg mm bl mt cd AZ C hret
  refine j_iload_n C dX6_ofChart_0 rfl ?_
  refine j_if_neN C dX6_ofChart_1 (tgt := 12) (by decide) (by omega) (fun cq1 => absurd cq1 (by decide)) (fun cq1 => ?_)
  refine j_aload_n C dX6_ofChart_4 rfl ?_
  refine j_iload_n C dX6_ofChart_5 rfl ?_
  refine j_callV C (cm_figure hS hW (by omega)) dX6_ofChart_6 rfl (by decide) (T := TX6) rfl gX6_ofChart_X6_figure rfl kd_X6_figure rfl rfl (Nat.le_of_ble_eq_true rfl) ⟨by decide, by decide⟩ ⟨Nat.zero_le _, Nat.zero_le _⟩ (k_I ?_)
  refine j_goto C dX6_ofChart_9 (tgt := 30) (by decide) ?_
  exact j_ireturn C hret dX6_ofChart_30 ⟨rfl, rfl⟩

set_option maxHeartbeats 4000000 in
set_option maxRecDepth 100000 in
theorem cm_ofChart_1 {l : Launch} {G : GG} {M : MM} {σ : Sg} (hS : Sm M 0 σ) (hW : Wf σ) {ch : Nat} (hc : ch < 6) : Ct l G yX6_ofChart wsX6_ofChart 8 ([.ref (G.2.2 84), .int (nI ch), .int (nI 1)] : List Value) M (rI (ofC σ ch 1) M) := by
  refine Ct.of (cc := cX6_ofChart) (maxL := 3) (ret := (some .int)) (lv := [(0, .ref (G.2.2 84)), (1, .int (nI ch)), (2, .int (nI 1))]) (by decide) rfl rfl (Nat.le_of_ble_eq_true rfl) ?_
  intro pg ev sg mm bl mt cd AZ C hret
  refine j_iload_n C dX6_ofChart_0 rfl ?_
  refine j_if_neN C dX6_ofChart_1 (tgt := 12) (by decide) (by omega) (fun cq1 => ?_) (fun cq1 => absurd cq1 (by decide))
  refine j_iload_n C dX6_ofChart_12 rfl ?_
  refine j_iconst C dX6_ofChart_13 (v := nI 1) (by decide) ?_
  refine j_icmp_neN C dX6_ofChart_14 (tgt := 25) (by decide) (by omega) (by omega) (fun cq14 => absurd cq14 (by decide)) (fun cq14 => ?_)
  refine j_aload_n C dX6_ofChart_17 rfl ?_
  refine j_iload_n C dX6_ofChart_18 rfl ?_
  refine j_callV C (cm_ground hS hW (by omega)) dX6_ofChart_19 rfl (by decide) (T := TX6) rfl gX6_ofChart_X6_ground rfl kd_X6_ground rfl rfl (Nat.le_of_ble_eq_true rfl) ⟨by decide, by decide⟩ ⟨Nat.zero_le _, Nat.zero_le _⟩ (k_I ?_)
  refine j_goto C dX6_ofChart_22 (tgt := 30) (by decide) ?_
  exact j_ireturn C hret dX6_ofChart_30 ⟨rfl, rfl⟩

set_option maxHeartbeats 4000000 in
set_option maxRecDepth 100000 in
theorem cm_ofChart_2 {l : Launch} {G : GG} {M : MM} {σ : Sg} (hS : Sm M 0 σ) (hW : Wf σ) {ch : Nat} (hc : ch < 6) : Ct l G yX6_ofChart wsX6_ofChart 8 ([.ref (G.2.2 84), .int (nI ch), .int (nI 2)] : List Value) M (rI (ofC σ ch 2) M) := by
  refine Ct.of (cc := cX6_ofChart) (maxL := 3) (ret := (some .int)) (lv := [(0, .ref (G.2.2 84)), (1, .int (nI ch)), (2, .int (nI 2))]) (by decide) rfl rfl (Nat.le_of_ble_eq_true rfl) ?_
  intro pg ev sg mm bl mt cd AZ C hret
  refine j_iload_n C dX6_ofChart_0 rfl ?_
  refine j_if_neN C dX6_ofChart_1 (tgt := 12) (by decide) (by omega) (fun cq1 => ?_) (fun cq1 => absurd cq1 (by decide))
  refine j_iload_n C dX6_ofChart_12 rfl ?_
  refine j_iconst C dX6_ofChart_13 (v := nI 1) (by decide) ?_
  refine j_icmp_neN C dX6_ofChart_14 (tgt := 25) (by decide) (by omega) (by omega) (fun cq14 => ?_) (fun cq14 => absurd cq14 (by decide))
  refine j_aload_n C dX6_ofChart_25 rfl ?_
  refine j_iload_n C dX6_ofChart_26 rfl ?_
  refine j_callV C (cm_readers hS hW (by omega)) dX6_ofChart_27 rfl (by decide) (T := TX6) rfl gX6_ofChart_X6_readers rfl kd_X6_readers rfl rfl (Nat.le_of_ble_eq_true rfl) ⟨by decide, by decide⟩ ⟨Nat.zero_le _, Nat.zero_le _⟩ (k_I ?_)
  exact j_ireturn C hret dX6_ofChart_30 ⟨rfl, rfl⟩

theorem cm_ofChart {l : Launch} {G : GG} {M : MM} {σ : Sg} (hS : Sm M 0 σ) (hW : Wf σ) {ch k : Nat} (hc : ch < 6) (hk : k ≤ 2) : Ct l G yX6_ofChart wsX6_ofChart 8 [.ref (G.2.2 84), .int (nI ch), .int (nI k)] M (rI (ofC σ ch k) M) := by
  rcases (show k = 0 ∨ k = 1 ∨ k = 2 by omega) with rfl | rfl | rfl
  · exact cm_ofChart_0 hS hW hc
  · exact cm_ofChart_1 hS hW hc
  · exact cm_ofChart_2 hS hW hc

set_option maxHeartbeats 4000000 in
set_option maxRecDepth 100000 in
theorem cm_alikeToAll {l : Launch} {G : GG} {M : MM} {σ : Sg} (hS : Sm M 0 σ) (hW : Wf σ)  : Ct l G yX6_alikeToAll wsX6_alikeToAll 6 ([.ref (G.2.2 84)] : List Value) M (rI (nI (nob σ)) M) := by
  refine Ct.of (cc := cX6_alikeToAll) (maxL := 5) (ret := (some .int)) (lv := [(0, .ref (G.2.2 84))]) (by decide) rfl rfl (Nat.le_of_ble_eq_true rfl) ?_
  intro pg ev sg mm bl mt cd AZ C hret
  refine j_iconst C dX6_alikeToAll_0 (v := nI 0) (by decide) ?_
  refine j_istore_n C dX6_alikeToAll_1 (by decide) ?_
  refine j_iconst C dX6_alikeToAll_2 (v := nI 0) (by decide) ?_
  refine j_istore_n C dX6_alikeToAll_3 (by decide) ?_
  have L4 : ∀ k, k ≤ 64 → ∀ acc, acc = cntN k (nobF σ) → J G pg l ev (rmD 6) sg mm ([.ref (G.2.2 84)] : List Value).toArray bl mt cd AZ 5 (MQ bl (QQ G (rI (nI (nob σ)) M) AZ) ([.ref (G.2.2 84)] : List Value).toArray sg 0 0 AZ) 0 0 4 [(0, .ref (G.2.2 84)), (1, .int (nI acc)), (2, .int (nI k))] [] (M) := by
    refine dnto ?_
    intro k hk4 ih4 acc ha
    refine j_iload_n C dX6_alikeToAll_4 rfl ?_
    refine j_bipush C dX6_alikeToAll_5 (v := nI 64) (by decide) ?_
    refine j_icmp_geN C dX6_alikeToAll_7 (tgt := 87) (by decide) (by omega) (by omega) (fun cq7 => ?_) (fun cq7 => ?_)
    · refine j_iload_n C dX6_alikeToAll_87 rfl ?_
      exact j_ireturn C hret dX6_alikeToAll_88 ⟨congrArg (fun z => some (Value.int (nI z))) (by rw [ha, show k = 64 by omega]; rfl), rfl⟩
    · refine j_iload_n C dX6_alikeToAll_10 rfl ?_
      refine j_bipush C dX6_alikeToAll_11 (v := nI 8) (by decide) ?_
      refine j_idivN C dX6_alikeToAll_13 (by omega) (by decide) (by decide) ?_
      refine j_iload_n C dX6_alikeToAll_14 rfl ?_
      refine j_bipush C dX6_alikeToAll_15 (v := nI 8) (by decide) ?_
      refine j_iremN C dX6_alikeToAll_17 (by omega) (by decide) (by decide) ?_
      refine j_icmp_ltN C dX6_alikeToAll_18 (tgt := 25) (by decide) (by omega) (by omega) (fun cq18 => ?_) (fun cq18 => ?_)
      · refine j_iconst C dX6_alikeToAll_25 (v := nI 0) (by decide) ?_
        refine j_top C (bI (!decide (k / 8 < k % 8))) (by rw [decide_eq_true (by omega)]; rfl) ?_
        refine j_istore_n C dX6_alikeToAll_26 (by decide) ?_
        refine j_iconst C dX6_alikeToAll_27 (v := nI 0) (by decide) ?_
        refine j_istore C dX6_alikeToAll_28 (by decide) ?_
        have L30 : ∀ p, p ≤ 4 → ∀ td, td = tdF σ k p → J G pg l ev (rmD 6) sg mm ([.ref (G.2.2 84)] : List Value).toArray bl mt cd AZ 5 (MQ bl (QQ G (rI (nI (nob σ)) M) AZ) ([.ref (G.2.2 84)] : List Value).toArray sg 0 0 AZ) 0 0 30 [(0, .ref (G.2.2 84)), (1, .int (nI acc)), (2, .int (nI k)), (3, .int (bI td)), (4, .int (nI p))] [] (M) := by
          refine dnto ?_
          intro p hp30 ih30 td ht
          refine j_iload C dX6_alikeToAll_30 rfl ?_
          refine j_iconst C dX6_alikeToAll_32 (v := nI 4) (by decide) ?_
          refine j_icmp_geN C dX6_alikeToAll_33 (tgt := 69) (by decide) (by omega) (by omega) (fun cq33 => ?_) (fun cq33 => ?_)
          · have e4 : p = 4 := by omega
            subst e4
            refine j_iload_n C dX6_alikeToAll_69 rfl ?_
            refine j_iload_n C dX6_alikeToAll_70 rfl ?_
            refine j_if_eqB C dX6_alikeToAll_71 (tgt := 78) (by decide) (fun cq71 => ?_) (fun cq71 => ?_)
            · refine j_iconst C dX6_alikeToAll_78 (v := nI 1) (by decide) ?_
              refine j_iaddN C dX6_alikeToAll_79 ?_
              refine j_istore_n C dX6_alikeToAll_80 (by decide) ?_
              refine j_iincN C dX6_alikeToAll_81 rfl (by decide) ?_
              refine j_goto C dX6_alikeToAll_84 (tgt := 4) (by decide) ?_
              exact j_pick [0, 1, 2] (ih4 (by omega) _ (by first | exact cnt_t ha ((nob_td σ k).trans (by rw [← ht, cq71]; rfl)) | exact cnt_f ha ((nob_td σ k).trans (by rw [← ht, cq71]; rfl))))
            · refine j_iconst C dX6_alikeToAll_74 (v := nI 0) (by decide) ?_
              refine j_goto C dX6_alikeToAll_75 (tgt := 79) (by decide) ?_
              refine j_iaddN C dX6_alikeToAll_79 ?_
              refine j_istore_n C dX6_alikeToAll_80 (by decide) ?_
              refine j_iincN C dX6_alikeToAll_81 rfl (by decide) ?_
              refine j_goto C dX6_alikeToAll_84 (tgt := 4) (by decide) ?_
              exact j_pick [0, 1, 2] (ih4 (by omega) _ (by first | exact cnt_t ha ((nob_td σ k).trans (by rw [← ht, cq71]; rfl)) | exact cnt_f ha ((nob_td σ k).trans (by rw [← ht, cq71]; rfl))))
          · refine j_iload_n C dX6_alikeToAll_36 rfl ?_
            refine j_if_neB C dX6_alikeToAll_37 (tgt := 57) (by decide) (fun cq37 => ?_) (fun cq37 => ?_)
            · refine j_iconst C dX6_alikeToAll_57 (v := nI 1) (by decide) ?_
              refine j_top C (bI true) rfl ?_
              refine j_goto C dX6_alikeToAll_58 (tgt := 62) (by decide) ?_
              refine j_istore_n C dX6_alikeToAll_62 (by decide) ?_
              refine j_iincN C dX6_alikeToAll_63 rfl (by decide) ?_
              refine j_goto C dX6_alikeToAll_66 (tgt := 30) (by decide) ?_
              exact ih30 (by omega) _ (by first | (rw [ht] at cq37; show _ = (tdF σ k p || _); rw [cq37]; rfl) | (rw [ht] at cq37; show _ = (tdF σ k p || _); rw [cq37, cq54]; rfl))
            · refine j_aload_n C dX6_alikeToAll_40 rfl ?_
              refine j_iload C dX6_alikeToAll_41 rfl ?_
              refine j_iload_n C dX6_alikeToAll_43 rfl ?_
              refine j_bipush C dX6_alikeToAll_44 (v := nI 8) (by decide) ?_
              refine j_idivN C dX6_alikeToAll_46 (by omega) (by decide) (by decide) ?_
              refine j_iload_n C dX6_alikeToAll_47 rfl ?_
              refine j_bipush C dX6_alikeToAll_48 (v := nI 8) (by decide) ?_
              refine j_iremN C dX6_alikeToAll_50 (by omega) (by decide) (by decide) ?_
              refine j_callV C (cm_areApart hS hW (by omega) (by omega) (by omega)) dX6_alikeToAll_51 rfl (by decide) (T := TX6) rfl gX6_alikeToAll_X6_areApart rfl kd_X6_areApart rfl rfl (Nat.le_of_ble_eq_true rfl) ⟨by decide, by decide⟩ ⟨Nat.zero_le _, Nat.zero_le _⟩ (k_I ?_)
              refine j_if_eqB C dX6_alikeToAll_54 (tgt := 61) (by decide) (fun cq54 => ?_) (fun cq54 => ?_)
              · refine j_iconst C dX6_alikeToAll_61 (v := nI 0) (by decide) ?_
                refine j_top C (bI false) rfl ?_
                refine j_istore_n C dX6_alikeToAll_62 (by decide) ?_
                refine j_iincN C dX6_alikeToAll_63 rfl (by decide) ?_
                refine j_goto C dX6_alikeToAll_66 (tgt := 30) (by decide) ?_
                exact ih30 (by omega) _ (by first | (rw [ht] at cq37; show _ = (tdF σ k p || _); rw [cq37]; rfl) | (rw [ht] at cq37; show _ = (tdF σ k p || _); rw [cq37, cq54]; rfl))
              · refine j_iconst C dX6_alikeToAll_57 (v := nI 1) (by decide) ?_
                refine j_top C (bI true) rfl ?_
                refine j_goto C dX6_alikeToAll_58 (tgt := 62) (by decide) ?_
                refine j_istore_n C dX6_alikeToAll_62 (by decide) ?_
                refine j_iincN C dX6_alikeToAll_63 rfl (by decide) ?_
                refine j_goto C dX6_alikeToAll_66 (tgt := 30) (by decide) ?_
                exact ih30 (by omega) _ (by first | (rw [ht] at cq37; show _ = (tdF σ k p || _); rw [cq37]; rfl) | (rw [ht] at cq37; show _ = (tdF σ k p || _); rw [cq37, cq54]; rfl))
        exact L30 0 (by omega) _ rfl
      · refine j_iconst C dX6_alikeToAll_21 (v := nI 1) (by decide) ?_
        refine j_top C (bI (!decide (k / 8 < k % 8))) (by rw [decide_eq_false (by omega)]; rfl) ?_
        refine j_goto C dX6_alikeToAll_22 (tgt := 26) (by decide) ?_
        refine j_istore_n C dX6_alikeToAll_26 (by decide) ?_
        refine j_iconst C dX6_alikeToAll_27 (v := nI 0) (by decide) ?_
        refine j_istore C dX6_alikeToAll_28 (by decide) ?_
        have L30 : ∀ p, p ≤ 4 → ∀ td, td = tdF σ k p → J G pg l ev (rmD 6) sg mm ([.ref (G.2.2 84)] : List Value).toArray bl mt cd AZ 5 (MQ bl (QQ G (rI (nI (nob σ)) M) AZ) ([.ref (G.2.2 84)] : List Value).toArray sg 0 0 AZ) 0 0 30 [(0, .ref (G.2.2 84)), (1, .int (nI acc)), (2, .int (nI k)), (3, .int (bI td)), (4, .int (nI p))] [] (M) := by
          refine dnto ?_
          intro p hp30 ih30 td ht
          refine j_iload C dX6_alikeToAll_30 rfl ?_
          refine j_iconst C dX6_alikeToAll_32 (v := nI 4) (by decide) ?_
          refine j_icmp_geN C dX6_alikeToAll_33 (tgt := 69) (by decide) (by omega) (by omega) (fun cq33 => ?_) (fun cq33 => ?_)
          · have e4 : p = 4 := by omega
            subst e4
            refine j_iload_n C dX6_alikeToAll_69 rfl ?_
            refine j_iload_n C dX6_alikeToAll_70 rfl ?_
            refine j_if_eqB C dX6_alikeToAll_71 (tgt := 78) (by decide) (fun cq71 => ?_) (fun cq71 => ?_)
            · refine j_iconst C dX6_alikeToAll_78 (v := nI 1) (by decide) ?_
              refine j_iaddN C dX6_alikeToAll_79 ?_
              refine j_istore_n C dX6_alikeToAll_80 (by decide) ?_
              refine j_iincN C dX6_alikeToAll_81 rfl (by decide) ?_
              refine j_goto C dX6_alikeToAll_84 (tgt := 4) (by decide) ?_
              exact j_pick [0, 1, 2] (ih4 (by omega) _ (by first | exact cnt_t ha ((nob_td σ k).trans (by rw [← ht, cq71]; rfl)) | exact cnt_f ha ((nob_td σ k).trans (by rw [← ht, cq71]; rfl))))
            · refine j_iconst C dX6_alikeToAll_74 (v := nI 0) (by decide) ?_
              refine j_goto C dX6_alikeToAll_75 (tgt := 79) (by decide) ?_
              refine j_iaddN C dX6_alikeToAll_79 ?_
              refine j_istore_n C dX6_alikeToAll_80 (by decide) ?_
              refine j_iincN C dX6_alikeToAll_81 rfl (by decide) ?_
              refine j_goto C dX6_alikeToAll_84 (tgt := 4) (by decide) ?_
              exact j_pick [0, 1, 2] (ih4 (by omega) _ (by first | exact cnt_t ha ((nob_td σ k).trans (by rw [← ht, cq71]; rfl)) | exact cnt_f ha ((nob_td σ k).trans (by rw [← ht, cq71]; rfl))))
          · refine j_iload_n C dX6_alikeToAll_36 rfl ?_
            refine j_if_neB C dX6_alikeToAll_37 (tgt := 57) (by decide) (fun cq37 => ?_) (fun cq37 => ?_)
            · refine j_iconst C dX6_alikeToAll_57 (v := nI 1) (by decide) ?_
              refine j_top C (bI true) rfl ?_
              refine j_goto C dX6_alikeToAll_58 (tgt := 62) (by decide) ?_
              refine j_istore_n C dX6_alikeToAll_62 (by decide) ?_
              refine j_iincN C dX6_alikeToAll_63 rfl (by decide) ?_
              refine j_goto C dX6_alikeToAll_66 (tgt := 30) (by decide) ?_
              exact ih30 (by omega) _ (by first | (rw [ht] at cq37; show _ = (tdF σ k p || _); rw [cq37]; rfl) | (rw [ht] at cq37; show _ = (tdF σ k p || _); rw [cq37, cq54]; rfl))
            · refine j_aload_n C dX6_alikeToAll_40 rfl ?_
              refine j_iload C dX6_alikeToAll_41 rfl ?_
              refine j_iload_n C dX6_alikeToAll_43 rfl ?_
              refine j_bipush C dX6_alikeToAll_44 (v := nI 8) (by decide) ?_
              refine j_idivN C dX6_alikeToAll_46 (by omega) (by decide) (by decide) ?_
              refine j_iload_n C dX6_alikeToAll_47 rfl ?_
              refine j_bipush C dX6_alikeToAll_48 (v := nI 8) (by decide) ?_
              refine j_iremN C dX6_alikeToAll_50 (by omega) (by decide) (by decide) ?_
              refine j_callV C (cm_areApart hS hW (by omega) (by omega) (by omega)) dX6_alikeToAll_51 rfl (by decide) (T := TX6) rfl gX6_alikeToAll_X6_areApart rfl kd_X6_areApart rfl rfl (Nat.le_of_ble_eq_true rfl) ⟨by decide, by decide⟩ ⟨Nat.zero_le _, Nat.zero_le _⟩ (k_I ?_)
              refine j_if_eqB C dX6_alikeToAll_54 (tgt := 61) (by decide) (fun cq54 => ?_) (fun cq54 => ?_)
              · refine j_iconst C dX6_alikeToAll_61 (v := nI 0) (by decide) ?_
                refine j_top C (bI false) rfl ?_
                refine j_istore_n C dX6_alikeToAll_62 (by decide) ?_
                refine j_iincN C dX6_alikeToAll_63 rfl (by decide) ?_
                refine j_goto C dX6_alikeToAll_66 (tgt := 30) (by decide) ?_
                exact ih30 (by omega) _ (by first | (rw [ht] at cq37; show _ = (tdF σ k p || _); rw [cq37]; rfl) | (rw [ht] at cq37; show _ = (tdF σ k p || _); rw [cq37, cq54]; rfl))
              · refine j_iconst C dX6_alikeToAll_57 (v := nI 1) (by decide) ?_
                refine j_top C (bI true) rfl ?_
                refine j_goto C dX6_alikeToAll_58 (tgt := 62) (by decide) ?_
                refine j_istore_n C dX6_alikeToAll_62 (by decide) ?_
                refine j_iincN C dX6_alikeToAll_63 rfl (by decide) ?_
                refine j_goto C dX6_alikeToAll_66 (tgt := 30) (by decide) ?_
                exact ih30 (by omega) _ (by first | (rw [ht] at cq37; show _ = (tdF σ k p || _); rw [cq37]; rfl) | (rw [ht] at cq37; show _ = (tdF σ k p || _); rw [cq37, cq54]; rfl))
        exact L30 0 (by omega) _ rfl
  exact L4 0 (by omega) 0 rfl

theorem bI_nat (b : Bool) : bI b = nI (bif b then 1 else 0) := by cases b <;> rfl

set_option maxHeartbeats 4000000 in
set_option maxRecDepth 100000 in
theorem cm_counted_0 {l : Launch} {G : GG} {M : MM} {S : SS} (hS : Sm M 0 S.1) (hW : Wf S.1) (h1 : M.2.1 84 1 = nI S.2.1) : Ct l G yX6_counted wsX6_counted 9 ([.ref (G.2.2 84), .int (nI 0)] : List Value) M (rI (cnt8 S 0) M) := by
  refine Ct.of (cc := cX6_counted) (maxL := 2) (ret := (some .int)) (lv := [(0, .ref (G.2.2 84)), (1, .int (nI 0))]) (by decide) rfl rfl (Nat.le_of_ble_eq_true rfl) ?_
  intro pg ev sg mm bl mt cd AZ C hret
  refine j_iload_n C dX6_counted_0 rfl ?_
  refine j_tableIn C dX6_counted_1 (off := 43) (tgt := 44) (by decide) (by decide) (by decide) (by decide) ?_
  refine j_aload_n C dX6_counted_44 rfl ?_
  refine j_callV C (cm_labelled hS hW) dX6_counted_45 rfl (by decide) (T := TX6) rfl gX6_counted_X6_labelled rfl kd_X6_labelled rfl rfl (Nat.le_of_ble_eq_true rfl) ⟨by decide, by decide⟩ ⟨Nat.zero_le _, Nat.zero_le _⟩ (k_I ?_)
  exact j_ireturn C hret dX6_counted_48 ⟨rfl, rfl⟩

set_option maxHeartbeats 4000000 in
set_option maxRecDepth 100000 in
theorem cm_counted_1 {l : Launch} {G : GG} {M : MM} {S : SS} (hS : Sm M 0 S.1) (hW : Wf S.1) (h1 : M.2.1 84 1 = nI S.2.1) : Ct l G yX6_counted wsX6_counted 9 ([.ref (G.2.2 84), .int (nI 1)] : List Value) M (rI (cnt8 S 1) M) := by
  refine Ct.of (cc := cX6_counted) (maxL := 2) (ret := (some .int)) (lv := [(0, .ref (G.2.2 84)), (1, .int (nI 1))]) (by decide) rfl rfl (Nat.le_of_ble_eq_true rfl) ?_
  intro pg ev sg mm bl mt cd AZ C hret
  refine j_iload_n C dX6_counted_0 rfl ?_
  refine j_tableIn C dX6_counted_1 (off := 48) (tgt := 49) (by decide) (by decide) (by decide) (by decide) ?_
  refine j_aload_n C dX6_counted_49 rfl ?_
  refine j_callV C (cm_unlike hS hW) dX6_counted_50 rfl (by decide) (T := TX6) rfl gX6_counted_X6_unlike rfl kd_X6_unlike rfl rfl (Nat.le_of_ble_eq_true rfl) ⟨by decide, by decide⟩ ⟨Nat.zero_le _, Nat.zero_le _⟩ (k_I ?_)
  exact j_ireturn C hret dX6_counted_53 ⟨rfl, rfl⟩

set_option maxHeartbeats 4000000 in
set_option maxRecDepth 100000 in
theorem cm_counted_2 {l : Launch} {G : GG} {M : MM} {S : SS} (hS : Sm M 0 S.1) (hW : Wf S.1) (h1 : M.2.1 84 1 = nI S.2.1) : Ct l G yX6_counted wsX6_counted 9 ([.ref (G.2.2 84), .int (nI 2)] : List Value) M (rI (cnt8 S 2) M) := by
  refine Ct.of (cc := cX6_counted) (maxL := 2) (ret := (some .int)) (lv := [(0, .ref (G.2.2 84)), (1, .int (nI 2))]) (by decide) rfl rfl (Nat.le_of_ble_eq_true rfl) ?_
  intro pg ev sg mm bl mt cd AZ C hret
  refine j_iload_n C dX6_counted_0 rfl ?_
  refine j_tableIn C dX6_counted_1 (off := 53) (tgt := 54) (by decide) (by decide) (by decide) (by decide) ?_
  refine j_aload_n C dX6_counted_54 rfl ?_
  refine j_getf C dX6_counted_55 rfl (by decide) (T := TX6) rfl in_X6_counted_X6 (k := 0) (by decide) fl_X6_counted_7 rfl rfl ?_
  refine j_bipush C dX6_counted_58 (v := nI 44) (by decide) ?_
  refine j_ialdN C dX6_counted_60 (show ilen 85 = some 531 from rfl) (by omega) (by decide) ?_
  refine j_top C _ (m_ch hS) ?_
  exact j_ireturn C hret dX6_counted_61 ⟨rfl, rfl⟩

set_option maxHeartbeats 4000000 in
set_option maxRecDepth 100000 in
theorem cm_counted_3 {l : Launch} {G : GG} {M : MM} {S : SS} (hS : Sm M 0 S.1) (hW : Wf S.1) (h1 : M.2.1 84 1 = nI S.2.1) : Ct l G yX6_counted wsX6_counted 9 ([.ref (G.2.2 84), .int (nI 3)] : List Value) M (rI (cnt8 S 3) M) := by
  refine Ct.of (cc := cX6_counted) (maxL := 2) (ret := (some .int)) (lv := [(0, .ref (G.2.2 84)), (1, .int (nI 3))]) (by decide) rfl rfl (Nat.le_of_ble_eq_true rfl) ?_
  intro pg ev sg mm bl mt cd AZ C hret
  refine j_iload_n C dX6_counted_0 rfl ?_
  refine j_tableIn C dX6_counted_1 (off := 61) (tgt := 62) (by decide) (by decide) (by decide) (by decide) ?_
  refine j_aload_n C dX6_counted_62 rfl ?_
  refine j_callV C (cm_alikeToAll hS hW) dX6_counted_63 rfl (by decide) (T := TX6) rfl gX6_counted_X6_alikeToAll rfl kd_X6_alikeToAll rfl rfl (Nat.le_of_ble_eq_true rfl) ⟨by decide, by decide⟩ ⟨Nat.zero_le _, Nat.zero_le _⟩ (k_I ?_)
  exact j_ireturn C hret dX6_counted_66 ⟨rfl, rfl⟩

set_option maxHeartbeats 4000000 in
set_option maxRecDepth 100000 in
theorem cm_counted_4 {l : Launch} {G : GG} {M : MM} {S : SS} (hS : Sm M 0 S.1) (hW : Wf S.1) (h1 : M.2.1 84 1 = nI S.2.1) : Ct l G yX6_counted wsX6_counted 9 ([.ref (G.2.2 84), .int (nI 4)] : List Value) M (rI (cnt8 S 4) M) := by
  refine Ct.of (cc := cX6_counted) (maxL := 2) (ret := (some .int)) (lv := [(0, .ref (G.2.2 84)), (1, .int (nI 4))]) (by decide) rfl rfl (Nat.le_of_ble_eq_true rfl) ?_
  intro pg ev sg mm bl mt cd AZ C hret
  refine j_iload_n C dX6_counted_0 rfl ?_
  refine j_tableIn C dX6_counted_1 (off := 66) (tgt := 67) (by decide) (by decide) (by decide) (by decide) ?_
  refine j_aload_n C dX6_counted_67 rfl ?_
  refine j_iconst C dX6_counted_68 (v := nI 0) (by decide) ?_
  refine j_iconst C dX6_counted_69 (v := nI 5) (by decide) ?_
  refine j_callV C (cm_ofPainter_5 (p := 0) hS hW (by decide)) dX6_counted_70 rfl (by decide) (T := TX6) rfl gX6_counted_X6_ofPainter rfl kd_X6_ofPainter rfl rfl (Nat.le_of_ble_eq_true rfl) ⟨by decide, by decide⟩ ⟨Nat.zero_le _, Nat.zero_le _⟩ (k_I ?_)
  refine j_top C (nI (bif decide (wrg S.1 0 = 0) then 1 else 0)) (bI_nat _) ?_
  refine j_aload_n C dX6_counted_73 rfl ?_
  refine j_iconst C dX6_counted_74 (v := nI 1) (by decide) ?_
  refine j_iconst C dX6_counted_75 (v := nI 5) (by decide) ?_
  refine j_callV C (cm_ofPainter_5 (p := 1) hS hW (by decide)) dX6_counted_76 rfl (by decide) (T := TX6) rfl gX6_counted_X6_ofPainter rfl kd_X6_ofPainter rfl rfl (Nat.le_of_ble_eq_true rfl) ⟨by decide, by decide⟩ ⟨Nat.zero_le _, Nat.zero_le _⟩ (k_I ?_)
  refine j_top C (nI (bif decide (wrg S.1 1 = 0) then 1 else 0)) (bI_nat _) ?_
  refine j_iaddN C dX6_counted_79 ?_
  refine j_aload_n C dX6_counted_80 rfl ?_
  refine j_iconst C dX6_counted_81 (v := nI 2) (by decide) ?_
  refine j_iconst C dX6_counted_82 (v := nI 5) (by decide) ?_
  refine j_callV C (cm_ofPainter_5 (p := 2) hS hW (by decide)) dX6_counted_83 rfl (by decide) (T := TX6) rfl gX6_counted_X6_ofPainter rfl kd_X6_ofPainter rfl rfl (Nat.le_of_ble_eq_true rfl) ⟨by decide, by decide⟩ ⟨Nat.zero_le _, Nat.zero_le _⟩ (k_I ?_)
  refine j_top C (nI (bif decide (wrg S.1 2 = 0) then 1 else 0)) (bI_nat _) ?_
  refine j_iaddN C dX6_counted_86 ?_
  refine j_aload_n C dX6_counted_87 rfl ?_
  refine j_iconst C dX6_counted_88 (v := nI 3) (by decide) ?_
  refine j_iconst C dX6_counted_89 (v := nI 5) (by decide) ?_
  refine j_callV C (cm_ofPainter_5 (p := 3) hS hW (by decide)) dX6_counted_90 rfl (by decide) (T := TX6) rfl gX6_counted_X6_ofPainter rfl kd_X6_ofPainter rfl rfl (Nat.le_of_ble_eq_true rfl) ⟨by decide, by decide⟩ ⟨Nat.zero_le _, Nat.zero_le _⟩ (k_I ?_)
  refine j_top C (nI (bif decide (wrg S.1 3 = 0) then 1 else 0)) (bI_nat _) ?_
  refine j_iaddN C dX6_counted_93 ?_
  exact j_ireturn C hret dX6_counted_94 ⟨congrArg (fun z => some (Value.int z)) (congrArg nI (by show _ = 0 + _ + _ + _ + _; rw [Nat.zero_add])), rfl⟩

set_option maxHeartbeats 4000000 in
set_option maxRecDepth 100000 in
theorem cm_counted_5 {l : Launch} {G : GG} {M : MM} {S : SS} (hS : Sm M 0 S.1) (hW : Wf S.1) (h1 : M.2.1 84 1 = nI S.2.1) : Ct l G yX6_counted wsX6_counted 9 ([.ref (G.2.2 84), .int (nI 5)] : List Value) M (rI (cnt8 S 5) M) := by
  refine Ct.of (cc := cX6_counted) (maxL := 2) (ret := (some .int)) (lv := [(0, .ref (G.2.2 84)), (1, .int (nI 5))]) (by decide) rfl rfl (Nat.le_of_ble_eq_true rfl) ?_
  intro pg ev sg mm bl mt cd AZ C hret
  refine j_iload_n C dX6_counted_0 rfl ?_
  refine j_tableIn C dX6_counted_1 (off := 94) (tgt := 95) (by decide) (by decide) (by decide) (by decide) ?_
  refine j_aload_n C dX6_counted_95 rfl ?_
  refine j_getf C dX6_counted_96 rfl (by decide) (T := TX6) rfl in_X6_counted_X6 (k := 0) (by decide) fl_X6_counted_7 rfl rfl ?_
  refine j_bipush C dX6_counted_99 (v := nI 57) (by decide) ?_
  refine j_iload_n C dX6_counted_101 rfl ?_
  refine j_iaddN C dX6_counted_102 ?_
  refine j_iconst C dX6_counted_103 (v := nI 5) (by decide) ?_
  refine j_isubN C dX6_counted_104 (by omega) ?_
  refine j_ialdN C dX6_counted_105 (show ilen 85 = some 531 from rfl) (by omega) (by decide) ?_
  refine j_top C _ (m_co hS) ?_
  exact j_ireturn C hret dX6_counted_106 ⟨rfl, rfl⟩

set_option maxHeartbeats 4000000 in
set_option maxRecDepth 100000 in
theorem cm_counted_6 {l : Launch} {G : GG} {M : MM} {S : SS} (hS : Sm M 0 S.1) (hW : Wf S.1) (h1 : M.2.1 84 1 = nI S.2.1) : Ct l G yX6_counted wsX6_counted 9 ([.ref (G.2.2 84), .int (nI 6)] : List Value) M (rI (cnt8 S 6) M) := by
  refine Ct.of (cc := cX6_counted) (maxL := 2) (ret := (some .int)) (lv := [(0, .ref (G.2.2 84)), (1, .int (nI 6))]) (by decide) rfl rfl (Nat.le_of_ble_eq_true rfl) ?_
  intro pg ev sg mm bl mt cd AZ C hret
  refine j_iload_n C dX6_counted_0 rfl ?_
  refine j_tableIn C dX6_counted_1 (off := 94) (tgt := 95) (by decide) (by decide) (by decide) (by decide) ?_
  refine j_aload_n C dX6_counted_95 rfl ?_
  refine j_getf C dX6_counted_96 rfl (by decide) (T := TX6) rfl in_X6_counted_X6 (k := 0) (by decide) fl_X6_counted_7 rfl rfl ?_
  refine j_bipush C dX6_counted_99 (v := nI 57) (by decide) ?_
  refine j_iload_n C dX6_counted_101 rfl ?_
  refine j_iaddN C dX6_counted_102 ?_
  refine j_iconst C dX6_counted_103 (v := nI 5) (by decide) ?_
  refine j_isubN C dX6_counted_104 (by omega) ?_
  refine j_ialdN C dX6_counted_105 (show ilen 85 = some 531 from rfl) (by omega) (by decide) ?_
  refine j_top C _ (m_re hS) ?_
  exact j_ireturn C hret dX6_counted_106 ⟨rfl, rfl⟩

set_option maxHeartbeats 4000000 in
set_option maxRecDepth 100000 in
theorem cm_counted_7 {l : Launch} {G : GG} {M : MM} {S : SS} (hS : Sm M 0 S.1) (hW : Wf S.1) (h1 : M.2.1 84 1 = nI S.2.1) : Ct l G yX6_counted wsX6_counted 9 ([.ref (G.2.2 84), .int (nI 7)] : List Value) M (rI (cnt8 S 7) M) := by
  refine Ct.of (cc := cX6_counted) (maxL := 2) (ret := (some .int)) (lv := [(0, .ref (G.2.2 84)), (1, .int (nI 7))]) (by decide) rfl rfl (Nat.le_of_ble_eq_true rfl) ?_
  intro pg ev sg mm bl mt cd AZ C hret
  refine j_iload_n C dX6_counted_0 rfl ?_
  refine j_tableOut C dX6_counted_1 (tgt := 107) (by decide) (by decide) ?_
  refine j_aload_n C dX6_counted_107 rfl ?_
  refine j_getf C dX6_counted_108 rfl (by decide) (T := TX6) rfl in_X6_counted_X6 (k := 1) (by decide) fl_X6_counted_35 rfl rfl ?_
  refine j_top C (_) h1 ?_
  exact j_ireturn C hret dX6_counted_111 ⟨rfl, rfl⟩

theorem cm_counted {l : Launch} {G : GG} {M : MM} {S : SS} (hS : Sm M 0 S.1) (hW : Wf S.1) (h1 : M.2.1 84 1 = nI S.2.1) {k : Nat} (hk : k ≤ 7) : Ct l G yX6_counted wsX6_counted 9 [.ref (G.2.2 84), .int (nI k)] M (rI (cnt8 S k) M) := by
  rcases (show k = 0 ∨ k = 1 ∨ k = 2 ∨ k = 3 ∨ k = 4 ∨ k = 5 ∨ k = 6 ∨ k = 7 by omega) with rfl | rfl | rfl | rfl | rfl | rfl | rfl | rfl
  · exact cm_counted_0 hS hW h1
  · exact cm_counted_1 hS hW h1
  · exact cm_counted_2 hS hW h1
  · exact cm_counted_3 hS hW h1
  · exact cm_counted_4 hS hW h1
  · exact cm_counted_5 hS hW h1
  · exact cm_counted_6 hS hW h1
  · exact cm_counted_7 hS hW h1

theorem prW_brw (σ : Sg) (p q : Nat) : prW σ p (brw p q) = prW σ p (q + 1) := by
  unfold brw
  by_cases e : p = q
  · rw [if_pos e, ← e, prW_self]
  · rw [if_neg e]

set_option maxHeartbeats 4000000 in
set_option maxRecDepth 100000 in
theorem cm_withLender {l : Launch} {G : GG} {M : MM} {σ : Sg} (hS : Sm M 0 σ) (hW : Wf σ) {p q : Nat} (hp : p < 4) (hq : q < 4) : Ct l G yX6_withLender wsX6_withLender 6 ([.ref (G.2.2 84), .int (nI p), .int (nI q)] : List Value) M (rI (nI (prW σ p (q + 1))) M) := by
  refine Ct.of (cc := cX6_withLender) (maxL := 3) (ret := (some .int)) (lv := [(0, .ref (G.2.2 84)), (1, .int (nI p)), (2, .int (nI q))]) (by decide) rfl rfl (Nat.le_of_ble_eq_true rfl) ?_
  intro pg ev sg mm bl mt cd AZ C hret
  refine j_aload_n C dX6_withLender_0 rfl ?_
  refine j_iload_n C dX6_withLender_1 rfl ?_
  refine j_iload_n C dX6_withLender_2 rfl ?_
  refine j_iload_n C dX6_withLender_3 rfl ?_
  refine j_icmp_neN C dX6_withLender_4 (tgt := 11) (by decide) (by omega) (by omega) (fun cq4 => ?_) (fun cq4 => ?_)
  · refine j_iload_n C dX6_withLender_11 rfl ?_
    refine j_top C (oI (brw p q)) (by unfold brw; rw [if_neg cq4]; rfl) ?_
    refine j_callV C (cm_pairsWith hS hW (by omega) (by unfold brw; split <;> omega)) dX6_withLender_12 rfl (by decide) (T := TX6) rfl gX6_withLender_X6_pairsWith rfl kd_X6_pairsWith rfl rfl (Nat.le_of_ble_eq_true rfl) ⟨by decide, by decide⟩ ⟨Nat.zero_le _, Nat.zero_le _⟩ (k_I ?_)
    exact j_ireturn C hret dX6_withLender_15 ⟨congrArg (fun z => some (Value.int z)) (congrArg nI (prW_brw σ p q)), rfl⟩
  · refine j_iconst C dX6_withLender_7 (v := -1) (by decide) ?_
    refine j_top C (oI (brw p q)) (by unfold brw; rw [if_pos cq4]; rfl) ?_
    refine j_goto C dX6_withLender_8 (tgt := 12) (by decide) ?_
    refine j_callV C (cm_pairsWith hS hW (by omega) (by unfold brw; split <;> omega)) dX6_withLender_12 rfl (by decide) (T := TX6) rfl gX6_withLender_X6_pairsWith rfl kd_X6_pairsWith rfl rfl (Nat.le_of_ble_eq_true rfl) ⟨by decide, by decide⟩ ⟨Nat.zero_le _, Nat.zero_le _⟩ (k_I ?_)
    exact j_ireturn C hret dX6_withLender_15 ⟨congrArg (fun z => some (Value.int z)) (congrArg nI (prW_brw σ p q)), rfl⟩

set_option maxHeartbeats 4000000 in
set_option maxRecDepth 100000 in
theorem cm_best {l : Launch} {G : GG} {M : MM} {σ : Sg} (hS : Sm M 0 σ) (hW : Wf σ)  : Ct l G yX6_best wsX6_best 7 ([.ref (G.2.2 84)] : List Value) M (rI (nI (bst σ)) M) := by
  refine Ct.of (cc := cX6_best) (maxL := 3) (ret := (some .int)) (lv := [(0, .ref (G.2.2 84))]) (by decide) rfl rfl (Nat.le_of_ble_eq_true rfl) ?_
  intro pg ev sg mm bl mt cd AZ C hret
  refine j_iconst C dX6_best_0 (v := nI 0) (by decide) ?_
  refine j_istore_n C dX6_best_1 (by decide) ?_
  refine j_iconst C dX6_best_2 (v := nI 1) (by decide) ?_
  refine j_istore_n C dX6_best_3 (by decide) ?_
  have L4 : ∀ n, n ≤ 4 → 0 < n → ∀ b, b = (bestF σ n).1 → J G pg l ev (rmD 7) sg mm ([.ref (G.2.2 84)] : List Value).toArray bl mt cd AZ 3 (MQ bl (QQ G (rI (nI (bst σ)) M) AZ) ([.ref (G.2.2 84)] : List Value).toArray sg 0 0 AZ) 0 0 4 [(0, .ref (G.2.2 84)), (1, .int (nI b)), (2, .int (nI n))] [] (M) := by
    refine dnto ?_
    intro n hn4 ih4 hn0 b hb9
    have hin := bestF_in σ n hn0
    have hp1 := pr_le σ n
    have hp2 := pr_le σ b
    refine j_iload_n C dX6_best_4 rfl ?_
    refine j_iconst C dX6_best_5 (v := nI 4) (by decide) ?_
    refine j_icmp_geN C dX6_best_6 (tgt := 34) (by decide) (by omega) (by omega) (fun cq6 => ?_) (fun cq6 => ?_)
    · refine j_iload_n C dX6_best_34 rfl ?_
      exact j_ireturn C hret dX6_best_35 ⟨congrArg (fun z => some (Value.int (nI z))) (by rw [hb9, show n = 4 by omega]; rfl), rfl⟩
    · refine j_aload_n C dX6_best_9 rfl ?_
      refine j_iload_n C dX6_best_10 rfl ?_
      refine j_callV C (cm_pairs hS hW (by omega)) dX6_best_11 rfl (by decide) (T := TX6) rfl gX6_best_X6_pairs rfl kd_X6_pairs rfl rfl (Nat.le_of_ble_eq_true rfl) ⟨by decide, by decide⟩ ⟨Nat.zero_le _, Nat.zero_le _⟩ (k_I ?_)
      refine j_aload_n C dX6_best_14 rfl ?_
      refine j_iload_n C dX6_best_15 rfl ?_
      refine j_callV C (cm_pairs hS hW (by omega)) dX6_best_16 rfl (by decide) (T := TX6) rfl gX6_best_X6_pairs rfl kd_X6_pairs rfl rfl (Nat.le_of_ble_eq_true rfl) ⟨by decide, by decide⟩ ⟨Nat.zero_le _, Nat.zero_le _⟩ (k_I ?_)
      refine j_icmp_leN C dX6_best_19 (tgt := 26) (by decide) (by omega) (by omega) (fun cq19 => ?_) (fun cq19 => ?_)
      · refine j_iload_n C dX6_best_26 rfl ?_
        refine j_istore_n C dX6_best_27 (by decide) ?_
        refine j_iincN C dX6_best_28 rfl (by decide) ?_
        refine j_goto C dX6_best_31 (tgt := 4) (by decide) ?_
        exact ih4 (by omega) (by omega) _ (by first | exact best_t hn0 hb9 cq19 | exact best_f hn0 hb9 cq19)
      · refine j_iload_n C dX6_best_22 rfl ?_
        refine j_goto C dX6_best_23 (tgt := 27) (by decide) ?_
        refine j_istore_n C dX6_best_27 (by decide) ?_
        refine j_iincN C dX6_best_28 rfl (by decide) ?_
        refine j_goto C dX6_best_31 (tgt := 4) (by decide) ?_
        exact ih4 (by omega) (by omega) _ (by first | exact best_t hn0 hb9 cq19 | exact best_f hn0 hb9 cq19)
  exact L4 1 (by omega) (by omega) 0 rfl
