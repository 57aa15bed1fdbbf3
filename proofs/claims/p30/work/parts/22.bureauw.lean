set_option maxRecDepth 20000 in
theorem cst_J6_bitCount_0f7a4_265 : Cond.constant RJ6 265 (1431655765) ∈ wsJ6_bitCount_0f7a4 := by decide +kernel
set_option maxRecDepth 20000 in
theorem cst_J6_bitCount_0f7a4_266 : Cond.constant RJ6 266 (858993459) ∈ wsJ6_bitCount_0f7a4 := by decide +kernel
set_option maxRecDepth 20000 in
theorem cst_J6_bitCount_0f7a4_267 : Cond.constant RJ6 267 (252645135) ∈ wsJ6_bitCount_0f7a4 := by decide +kernel
set_option maxRecDepth 20000 in
theorem ks_J6_bitCount_0f7a4 : yJ6_bitCount_0f7a4.cls ≠ "java/lang/invoke/MethodHandle" ∧ yJ6_bitCount_0f7a4.cls ≠ "java/lang/invoke/VarHandle" ∧ (parseMethodDescriptor yJ6_bitCount_0f7a4.desc).map (fun d => d.parameters.length) = some 1 := by decide +kernel
set_option maxRecDepth 20000 in
theorem in_X0_unlikeLabels_X0 : ∀ w ∈ wsX00, w ∈ wsX0_unlikeLabels := by decide +kernel
set_option maxRecDepth 20000 in
theorem fl_X0_unlikeLabels_15 : Cond.fieldLink RX0 15 "PotLabels$Bureau" "labels" "[I" ∈ wsX0_unlikeLabels := by decide +kernel
set_option maxRecDepth 20000 in
theorem in_X0_nearestColour_X0 : ∀ w ∈ wsX00, w ∈ wsX0_nearestColour := by decide +kernel
set_option maxRecDepth 20000 in
theorem fl_X0_nearestColour_9 : Cond.fieldLink RX0 9 "PotLabels$Bureau" "colours" "[I" ∈ wsX0_nearestColour := by decide +kernel
set_option maxRecDepth 20000 in
theorem ks_X1_change : yX1_change.cls ≠ "java/lang/invoke/MethodHandle" ∧ yX1_change.cls ≠ "java/lang/invoke/VarHandle" ∧ (parseMethodDescriptor yX1_change.desc).map (fun d => d.parameters.length) = some 2 := by decide +kernel
set_option maxRecDepth 20000 in
theorem fl_X0_nearestColour_24 : Cond.fieldLink RX0 24 "PotLabels$Bureau" "lenders" "[I" ∈ wsX0_nearestColour := by decide +kernel
set_option maxRecDepth 20000 in
theorem in_X0_makeReadable_X0 : ∀ w ∈ wsX00, w ∈ wsX0_makeReadable := by decide +kernel
set_option maxRecDepth 20000 in
theorem fl_X0_makeReadable_27 : Cond.fieldLink RX0 27 "PotLabels$Bureau" "figures" "[I" ∈ wsX0_makeReadable := by decide +kernel
set_option maxRecDepth 20000 in
theorem fl_X0_makeReadable_30 : Cond.fieldLink RX0 30 "PotLabels$Bureau" "grounds" "[I" ∈ wsX0_makeReadable := by decide +kernel
set_option maxRecDepth 20000 in
theorem kd_X0_nearestColour : yX0_nearestColour.cls = RX0 ∧ yX0_nearestColour.cls ≠ "java/lang/invoke/MethodHandle" ∧ yX0_nearestColour.cls ≠ "java/lang/invoke/VarHandle" ∧ (parseMethodDescriptor yX0_nearestColour.desc).map (fun d => d.parameters.length) = some 3 := by decide +kernel
set_option maxRecDepth 20000 in
theorem fl_X0_makeReadable_9 : Cond.fieldLink RX0 9 "PotLabels$Bureau" "colours" "[I" ∈ wsX0_makeReadable := by decide +kernel
set_option maxRecDepth 20000 in
theorem fl_X0_makeReadable_43 : Cond.fieldLink RX0 43 "PotLabels$Bureau" "corrections" "I" ∈ wsX0_makeReadable := by decide +kernel
set_option maxRecDepth 20000 in
theorem fl_X0_makeReadable_46 : Cond.fieldLink RX0 46 "PotLabels$Bureau" "refusals" "I" ∈ wsX0_makeReadable := by decide +kernel
set_option maxRecDepth 20000 in
theorem in_X0_labelInOrder_X0 : ∀ w ∈ wsX00, w ∈ wsX0_labelInOrder := by decide +kernel
set_option maxRecDepth 20000 in
theorem fl_X0_labelInOrder_15 : Cond.fieldLink RX0 15 "PotLabels$Bureau" "labels" "[I" ∈ wsX0_labelInOrder := by decide +kernel
set_option maxRecDepth 20000 in
theorem ks_X0_leastOutside : yX0_leastOutside.cls ≠ "java/lang/invoke/MethodHandle" ∧ yX0_leastOutside.cls ≠ "java/lang/invoke/VarHandle" ∧ (parseMethodDescriptor yX0_leastOutside.desc).map (fun d => d.parameters.length) = some 1 := by decide +kernel
set_option maxRecDepth 20000 in
theorem in_X0_addChart_X0 : ∀ w ∈ wsX00, w ∈ wsX0_addChart := by decide +kernel
set_option maxRecDepth 20000 in
theorem fl_X0_addChart_39 : Cond.fieldLink RX0 39 "PotLabels$Bureau" "charts" "I" ∈ wsX0_addChart := by decide +kernel
set_option maxRecDepth 20000 in
theorem fl_X0_addChart_27 : Cond.fieldLink RX0 27 "PotLabels$Bureau" "figures" "[I" ∈ wsX0_addChart := by decide +kernel
set_option maxRecDepth 20000 in
theorem fl_X0_addChart_30 : Cond.fieldLink RX0 30 "PotLabels$Bureau" "grounds" "[I" ∈ wsX0_addChart := by decide +kernel
set_option maxRecDepth 20000 in
theorem fl_X0_addChart_46 : Cond.fieldLink RX0 46 "PotLabels$Bureau" "refusals" "I" ∈ wsX0_addChart := by decide +kernel
set_option maxRecDepth 20000 in
theorem in_X0_removeChart_X0 : ∀ w ∈ wsX00, w ∈ wsX0_removeChart := by decide +kernel
set_option maxRecDepth 20000 in
theorem fl_X0_removeChart_39 : Cond.fieldLink RX0 39 "PotLabels$Bureau" "charts" "I" ∈ wsX0_removeChart := by decide +kernel
set_option maxRecDepth 20000 in
theorem fl_X0_removeChart_27 : Cond.fieldLink RX0 27 "PotLabels$Bureau" "figures" "[I" ∈ wsX0_removeChart := by decide +kernel
set_option maxRecDepth 20000 in
theorem fl_X0_removeChart_30 : Cond.fieldLink RX0 30 "PotLabels$Bureau" "grounds" "[I" ∈ wsX0_removeChart := by decide +kernel
set_option maxHeartbeats 4000000 in
set_option maxRecDepth 100000 in
theorem ct_bitCount {l : Launch} {G : GG} {M : MM} {a : Nat} (ha : a < 256) : Ct l G yJ6_bitCount_0f7a4 wsJ6_bitCount_0f7a4 1 ([.int (nI a)] : List Value) M (rI (nI (popc a)) M) := by
  refine Ct.of (cc := cJ6_bitCount_0f7a4) (maxL := 1) (ret := (some .int)) (lv := [(0, .int (nI a))]) (by decide) rfl rfl (Nat.le_of_ble_eq_true rfl) ?_
  intro pg ev sg mm bl mt cd AZ C hret
  refine j_iload_n C dJ6_bitCount_0f7a4_0 rfl ?_
  refine j_iload_n C dJ6_bitCount_0f7a4_1 rfl ?_
  refine j_iconst C dJ6_bitCount_0f7a4_2 (v := nI 1) (by decide) ?_
  refine j_iushr C dJ6_bitCount_0f7a4_3 ?_
  refine j_ldcw C dJ6_bitCount_0f7a4_4 cst_J6_bitCount_0f7a4_265 ?_
  refine j_iand C dJ6_bitCount_0f7a4_7 ?_
  refine j_isub C dJ6_bitCount_0f7a4_8 ?_
  refine j_istore_n C dJ6_bitCount_0f7a4_9 (by decide) ?_
  refine j_iload_n C dJ6_bitCount_0f7a4_10 rfl ?_
  refine j_ldcw C dJ6_bitCount_0f7a4_11 cst_J6_bitCount_0f7a4_266 ?_
  refine j_iand C dJ6_bitCount_0f7a4_14 ?_
  refine j_iload_n C dJ6_bitCount_0f7a4_15 rfl ?_
  refine j_iconst C dJ6_bitCount_0f7a4_16 (v := nI 2) (by decide) ?_
  refine j_iushr C dJ6_bitCount_0f7a4_17 ?_
  refine j_ldcw C dJ6_bitCount_0f7a4_18 cst_J6_bitCount_0f7a4_266 ?_
  refine j_iand C dJ6_bitCount_0f7a4_21 ?_
  refine j_iadd C dJ6_bitCount_0f7a4_22 ?_
  refine j_istore_n C dJ6_bitCount_0f7a4_23 (by decide) ?_
  refine j_iload_n C dJ6_bitCount_0f7a4_24 rfl ?_
  refine j_iload_n C dJ6_bitCount_0f7a4_25 rfl ?_
  refine j_iconst C dJ6_bitCount_0f7a4_26 (v := nI 4) (by decide) ?_
  refine j_iushr C dJ6_bitCount_0f7a4_27 ?_
  refine j_iadd C dJ6_bitCount_0f7a4_28 ?_
  refine j_ldcw C dJ6_bitCount_0f7a4_29 cst_J6_bitCount_0f7a4_267 ?_
  refine j_iand C dJ6_bitCount_0f7a4_32 ?_
  refine j_istore_n C dJ6_bitCount_0f7a4_33 (by decide) ?_
  refine j_iload_n C dJ6_bitCount_0f7a4_34 rfl ?_
  refine j_iload_n C dJ6_bitCount_0f7a4_35 rfl ?_
  refine j_bipush C dJ6_bitCount_0f7a4_36 (v := nI 8) (by decide) ?_
  refine j_iushr C dJ6_bitCount_0f7a4_38 ?_
  refine j_iadd C dJ6_bitCount_0f7a4_39 ?_
  refine j_istore_n C dJ6_bitCount_0f7a4_40 (by decide) ?_
  refine j_iload_n C dJ6_bitCount_0f7a4_41 rfl ?_
  refine j_iload_n C dJ6_bitCount_0f7a4_42 rfl ?_
  refine j_bipush C dJ6_bitCount_0f7a4_43 (v := nI 16) (by decide) ?_
  refine j_iushr C dJ6_bitCount_0f7a4_45 ?_
  refine j_iadd C dJ6_bitCount_0f7a4_46 ?_
  refine j_istore_n C dJ6_bitCount_0f7a4_47 (by decide) ?_
  refine j_iload_n C dJ6_bitCount_0f7a4_48 rfl ?_
  refine j_bipush C dJ6_bitCount_0f7a4_49 (v := nI 63) (by decide) ?_
  refine j_iand C dJ6_bitCount_0f7a4_51 ?_
  exact j_ireturn C hret dJ6_bitCount_0f7a4_52 ⟨congrArg (fun z => some (Value.int z)) (bc_ok ha), rfl⟩

set_option maxHeartbeats 4000000 in
set_option maxRecDepth 100000 in
theorem ct_unlikeLabels {l : Launch} {G : GG} {M : MM} {b : Nat} {σ : Sg} (hb : b < 9) (hB : Bu M b σ) (hW : Wf σ)  : Ct l G yX0_unlikeLabels wsX0_unlikeLabels 2 ([.ref (G.2.2 (8 * b))] : List Value) M (rI (nI (popc (lmask σ))) M) := by
  refine Ct.of (cc := cX0_unlikeLabels) (maxL := 3) (ret := (some .int)) (lv := [(0, .ref (G.2.2 (8 * b)))]) (by decide) rfl rfl (Nat.le_of_ble_eq_true rfl) ?_
  intro pg ev sg mm bl mt cd AZ C hret
  refine j_iconst C dX0_unlikeLabels_0 (v := nI 0) (by decide) ?_
  refine j_istore_n C dX0_unlikeLabels_1 (by decide) ?_
  refine j_iconst C dX0_unlikeLabels_2 (v := nI 0) (by decide) ?_
  refine j_istore_n C dX0_unlikeLabels_3 (by decide) ?_
  have L4 : ∀ i, i ≤ 8 → ∀ acc, acc = orN i (fun p => bif decide (lab σ p = 0) then 0 else 2 ^ (lab σ p - 1)) → acc < 256 → J G pg l ev (rmD 2) sg mm ([.ref (G.2.2 (8 * b))] : List Value).toArray bl mt cd AZ 3 (MQ bl (QQ G (rI (nI (popc (lmask σ))) M) AZ) ([.ref (G.2.2 (8 * b))] : List Value).toArray sg 0 0 AZ) 0 0 4 [(0, .ref (G.2.2 (8 * b))), (1, .int (nI acc)), (2, .int (nI i))] [] (M) := by
    refine dnto ?_
    intro i hi4 ih4 acc ha hlt
    refine j_iload_n C dX0_unlikeLabels_4 rfl ?_
    refine j_bipush C dX0_unlikeLabels_5 (v := nI 8) (by decide) ?_
    refine j_icmp_geN C dX0_unlikeLabels_7 (tgt := 37) (by decide) (by omega) (by omega) (fun cq7 => ?_) (fun cq7 => ?_)
    · refine j_iload_n C dX0_unlikeLabels_37 rfl ?_
      have e8 : acc = lmask σ := by rw [ha, show i = 8 by omega]; rfl
      subst e8
      refine j_callS C (ct_bitCount hlt) dX0_unlikeLabels_38 gX0_unlikeLabels_J6_bitCount_0f7a4 rfl ks_J6_bitCount_0f7a4 rfl rfl (Nat.le_of_ble_eq_true rfl) ⟨by decide, by decide⟩ ⟨Nat.zero_le _, Nat.zero_le _⟩ (k_I ?_)
      exact j_ireturn C hret dX0_unlikeLabels_41 ⟨rfl, rfl⟩
    · obtain ⟨q1, q2, q3, q4⟩ := hW.1 i cq7
      refine j_aload_n C dX0_unlikeLabels_10 rfl ?_
      refine j_getf C dX0_unlikeLabels_11 (cell_B hb) (by have := hb; unfold NN; omega) (T := TX0) rfl in_X0_unlikeLabels_X0 (k := 1) (by decide) fl_X0_unlikeLabels_15 rfl rfl ?_
      refine j_iload_n C dX0_unlikeLabels_14 rfl ?_
      refine j_ialdN C dX0_unlikeLabels_15 (show ilen (8 * b + 2) = some 8 from ilen_B hb (by decide) (by decide)) (by omega) (by decide) ?_
      refine j_top C _ (hB.2.1 _ (by omega)) ?_
      refine j_iconst C dX0_unlikeLabels_16 (v := -1) (by decide) ?_
      refine j_icmp_eqO C dX0_unlikeLabels_17 (tgt := 31) (by decide) (by omega) (fun cq17 => ?_) (fun cq17 => ?_)
      · refine j_iincN C dX0_unlikeLabels_31 rfl (by decide) ?_
        refine j_goto C dX0_unlikeLabels_34 (tgt := 4) (by decide) ?_
        exact ih4 (by omega) _ (by first | exact or_t ha (by show cond (decide (lab σ i = 0)) _ _ = _; rw [decide_eq_false (show ¬ lab σ i = 0 from cq17)]; rfl) | exact or_f ha (by show cond (decide (lab σ i = 0)) _ _ = _; rw [decide_eq_true (show lab σ i = 0 from cq17)]; rfl)) (by first | exact hlt | exact Nat.or_lt_two_pow (n := 8) hlt (Nat.pow_lt_pow_right (by decide) (by omega)))
      · refine j_iload_n C dX0_unlikeLabels_20 rfl ?_
        refine j_iconst C dX0_unlikeLabels_21 (v := nI 1) (by decide) ?_
        refine j_aload_n C dX0_unlikeLabels_22 rfl ?_
        refine j_getf C dX0_unlikeLabels_23 (cell_B hb) (by have := hb; unfold NN; omega) (T := TX0) rfl in_X0_unlikeLabels_X0 (k := 1) (by decide) fl_X0_unlikeLabels_15 rfl rfl ?_
        refine j_iload_n C dX0_unlikeLabels_26 rfl ?_
        refine j_ialdN C dX0_unlikeLabels_27 (show ilen (8 * b + 2) = some 8 from ilen_B hb (by decide) (by decide)) (by omega) (by decide) ?_
        refine j_top C _ (hB.2.1 _ (by omega)) ?_
        refine j_top C (_) (oI_pos cq17) ?_
        refine j_ishl C dX0_unlikeLabels_28 ?_
        refine j_top C (_) (nI_shl1 (by omega)) ?_
        refine j_ior C dX0_unlikeLabels_29 ?_
        refine j_top C (_) (nI_or (by omega) (Nat.pow_lt_pow_right (by decide) (by omega))) ?_
        refine j_istore_n C dX0_unlikeLabels_30 (by decide) ?_
        refine j_iincN C dX0_unlikeLabels_31 rfl (by decide) ?_
        refine j_goto C dX0_unlikeLabels_34 (tgt := 4) (by decide) ?_
        exact ih4 (by omega) _ (by first | exact or_t ha (by show cond (decide (lab σ i = 0)) _ _ = _; rw [decide_eq_false (show ¬ lab σ i = 0 from cq17)]; rfl) | exact or_f ha (by show cond (decide (lab σ i = 0)) _ _ = _; rw [decide_eq_true (show lab σ i = 0 from cq17)]; rfl)) (by first | exact hlt | exact Nat.or_lt_two_pow (n := 8) hlt (Nat.pow_lt_pow_right (by decide) (by omega)))
  exact L4 0 (by omega) 0 rfl (by omega)

theorem bit_and (a l : Nat) : nI (a / 2 ^ l &&& 1) = bI (bit a l) := by
  rw [Nat.and_one_is_mod]
  unfold bit
  rcases Nat.mod_two_eq_zero_or_one (a / 2 ^ l) with h | h
  · rw [h]; rfl
  · rw [h]; rfl

set_option maxHeartbeats 4000000 in
set_option maxRecDepth 100000 in
theorem ct_leastOutside {l : Launch} {G : GG} {M : MM} {a : Nat} (ha : a < 128) : Ct l G yX0_leastOutside wsX0_leastOutside 1 ([.int (nI a)] : List Value) M (rI (nI (low a)) M) := by
  refine Ct.of (cc := cX0_leastOutside) (maxL := 2) (ret := (some .int)) (lv := [(0, .int (nI a))]) (by decide) rfl rfl (Nat.le_of_ble_eq_true rfl) ?_
  intro pg ev sg mm bl mt cd AZ C hret
  refine j_iconst C dX0_leastOutside_0 (v := nI 0) (by decide) ?_
  refine j_istore_n C dX0_leastOutside_1 (by decide) ?_
  have L2 : ∀ l9, l9 ≤ 7 → (∀ j, j < l9 → bit a j = true) → J G pg l ev (rmD 1) sg mm ([.int (nI a)] : List Value).toArray bl mt cd AZ 2 (MQ bl (QQ G (rI (nI (low a)) M) AZ) ([.int (nI a)] : List Value).toArray sg 0 0 AZ) 0 0 2 [(0, .int (nI a)), (1, .int (nI l9))] [] (M) := by
    refine dnto ?_
    intro l9 hl2 ih2 hb9
    refine j_iload_n C dX0_leastOutside_2 rfl ?_
    refine j_bipush C dX0_leastOutside_3 (v := nI 7) (by decide) ?_
    refine j_icmp_geN C dX0_leastOutside_5 (tgt := 22) (by decide) (by omega) (by omega) (fun cq5 => ?_) (fun cq5 => ?_)
    · refine j_iload_n C dX0_leastOutside_22 rfl ?_
      exact j_ireturn C hret dX0_leastOutside_23 ⟨congrArg (fun z => some (Value.int (nI z))) (low_is hl2 hb9 (by first | exact Or.inl (by omega) | exact Or.inr cq13)).symm, rfl⟩
    · refine j_iload_n C dX0_leastOutside_8 rfl ?_
      refine j_iload_n C dX0_leastOutside_9 rfl ?_
      refine j_ishr C dX0_leastOutside_10 ?_
      refine j_top C (_) (nI_shr (by omega) (by omega)) ?_
      refine j_iconst C dX0_leastOutside_11 (v := nI 1) (by decide) ?_
      refine j_iand C dX0_leastOutside_12 ?_
      refine j_top C (_) ((nI_and (Nat.lt_of_le_of_lt (Nat.div_le_self _ _) (by omega)) (by decide)).trans (bit_and a l9)) ?_
      refine j_if_eqB C dX0_leastOutside_13 (tgt := 22) (by decide) (fun cq13 => ?_) (fun cq13 => ?_)
      · refine j_iload_n C dX0_leastOutside_22 rfl ?_
        exact j_ireturn C hret dX0_leastOutside_23 ⟨congrArg (fun z => some (Value.int (nI z))) (low_is hl2 hb9 (by first | exact Or.inl (by omega) | exact Or.inr cq13)).symm, rfl⟩
      · refine j_iincN C dX0_leastOutside_16 rfl (by decide) ?_
        refine j_goto C dX0_leastOutside_19 (tgt := 2) (by decide) ?_
        exact ih2 (by omega) (fun j hj => (Nat.lt_or_ge j l9).elim (hb9 j) (fun q => by rw [show j = l9 by omega]; exact cq13))
  exact L2 0 (by omega) (fun j hj => absurd hj (Nat.not_lt_zero j))

set_option maxHeartbeats 4000000 in
set_option maxRecDepth 100000 in
theorem ct_nearestColour {l : Launch} {G : GG} {M : MM} {b : Nat} {σ : Sg} (hb : b < 9) (hB : Bu M b σ) (hW : Wf σ) {p i j : Nat} {az : Nat × Nat} (hz : az = nst σ p i j 1000) (hp : p < 4) (hi : i < 8) (hj : j < 8) : Ct l G yX0_nearestColour wsX0_nearestColour 4 ([.ref (G.2.2 (8 * b)), .int (nI p), .int (nI i), .int (nI j)] : List Value) M (rI (oI az.1) M) := by
  obtain ⟨hk, hs, hl⟩ := hW.2.1 p hp
  obtain ⟨q1, q2, q3, q4⟩ := hW.1 i hi
  obtain ⟨r1, r2, r3, r4⟩ := hW.1 j hj
  refine Ct.of (cc := cX0_nearestColour) (maxL := 8) (ret := (some .int)) (lv := [(0, .ref (G.2.2 (8 * b))), (1, .int (nI p)), (2, .int (nI i)), (3, .int (nI j))]) (by decide) rfl rfl (Nat.le_of_ble_eq_true rfl) ?_
  intro pg ev sg mm bl mt cd AZ C hret
  refine j_iconst C dX0_nearestColour_0 (v := -1) (by decide) ?_
  refine j_istore C dX0_nearestColour_1 (by decide) ?_
  refine j_bipush C dX0_nearestColour_3 (v := nI 28) (by decide) ?_
  refine j_istore C dX0_nearestColour_5 (by decide) ?_
  refine j_iconst C dX0_nearestColour_7 (v := nI 0) (by decide) ?_
  refine j_istore C dX0_nearestColour_8 (by decide) ?_
  have L10 : ∀ k, k ≤ 1000 → ∀ a : Nat × Nat, a = nst σ p i j k → J G pg l ev (rmD 4) sg mm ([.ref (G.2.2 (8 * b)), .int (nI p), .int (nI i), .int (nI j)] : List Value).toArray bl mt cd AZ 8 (MQ bl (QQ G (rI (oI az.1) M) AZ) ([.ref (G.2.2 (8 * b)), .int (nI p), .int (nI i), .int (nI j)] : List Value).toArray sg 0 0 AZ) 0 0 10 [(0, .ref (G.2.2 (8 * b))), (1, .int (nI p)), (2, .int (nI i)), (3, .int (nI j)), (4, .int (oI a.1)), (5, .int (nI a.2)), (6, .int (nI k))] [] (M) := by
    refine dnto ?_
    intro k hk10 ih10 a ha
    have ha2 : a.2 ≤ 28 := by rw [ha]; exact (nst_in σ p i j k).1.2
    refine j_iload C dX0_nearestColour_10 rfl ?_
    refine j_sipush C dX0_nearestColour_12 (v := nI 1000) (by decide) ?_
    refine j_icmp_geN C dX0_nearestColour_15 (tgt := 74) (by decide) (by omega) (by omega) (fun cq15 => ?_) (fun cq15 => ?_)
    · refine j_iload C dX0_nearestColour_74 rfl ?_
      exact j_ireturn C hret dX0_nearestColour_76 ⟨by rw [ha, show k = 1000 by omega, ← hz], rfl⟩
    · have hd27 : chg σ i k ≤ 27 := dist_le q1 q2 q3 (by omega) (by omega) (by omega)
      refine j_aload_n C dX0_nearestColour_18 rfl ?_
      refine j_getf C dX0_nearestColour_19 (cell_B hb) (by have := hb; unfold NN; omega) (T := TX0) rfl in_X0_nearestColour_X0 (k := 0) (by decide) fl_X0_nearestColour_9 rfl rfl ?_
      refine j_iload_n C dX0_nearestColour_22 rfl ?_
      refine j_ialdN C dX0_nearestColour_23 (show ilen (8 * b + 1) = some 8 from ilen_B hb (by decide) (by decide)) (by omega) (by decide) ?_
      refine j_top C _ (hB.1 _ (by omega)) ?_
      refine j_iload C dX0_nearestColour_24 rfl ?_
      refine j_top C (_) (congrArg nI (cod_dig cq15)) ?_
      refine j_callS C (ct_change q1 q2 q3 (by omega) (by omega) (by omega)) dX0_nearestColour_26 gX0_nearestColour_X1_change rfl ks_X1_change rfl rfl (Nat.le_of_ble_eq_true rfl) ⟨by decide, by decide⟩ ⟨Nat.zero_le _, Nat.zero_le _⟩ (k_I ?_)
      refine j_top C (nI (chg σ i k)) rfl ?_
      refine j_istore C dX0_nearestColour_29 (by decide) ?_
      refine j_iload C dX0_nearestColour_31 rfl ?_
      refine j_iload C dX0_nearestColour_33 rfl ?_
      refine j_icmp_geN C dX0_nearestColour_35 (tgt := 68) (by decide) (by omega) (by omega) (fun cq35 => ?_) (fun cq35 => ?_)
      · refine j_iincN C dX0_nearestColour_68 rfl (by decide) ?_
        refine j_goto C dX0_nearestColour_71 (tgt := 10) (by decide) ?_
        exact j_pick [0, 1, 2, 3, 4, 5, 6] (by first | exact ih10 (by omega) _ (nst_f1 ha cq35) | exact ih10 (by omega) _ (nst_f2 ha cq57) | exact ih10 (by omega) (k + 1, chg σ i k) (nst_t ha cq35 cq57))
      · refine j_aload_n C dX0_nearestColour_38 rfl ?_
        refine j_iload_n C dX0_nearestColour_39 rfl ?_
        refine j_aload_n C dX0_nearestColour_40 rfl ?_
        refine j_getf C dX0_nearestColour_41 (cell_B hb) (by have := hb; unfold NN; omega) (T := TX0) rfl in_X0_nearestColour_X0 (k := 4) (by decide) fl_X0_nearestColour_24 rfl rfl ?_
        refine j_iload_n C dX0_nearestColour_44 rfl ?_
        refine j_ialdN C dX0_nearestColour_45 (show ilen (8 * b + 5) = some 4 from ilen_B hb (by decide) (by decide)) (by omega) (by decide) ?_
        refine j_top C _ (hB.2.2.2.2.1 _ (by omega)) ?_
        refine j_iload C dX0_nearestColour_46 rfl ?_
        refine j_top C (_) (congrArg nI (cod_dig cq15)) ?_
        refine j_aload_n C dX0_nearestColour_48 rfl ?_
        refine j_getf C dX0_nearestColour_49 (cell_B hb) (by have := hb; unfold NN; omega) (T := TX0) rfl in_X0_nearestColour_X0 (k := 0) (by decide) fl_X0_nearestColour_9 rfl rfl ?_
        refine j_iload_n C dX0_nearestColour_52 rfl ?_
        refine j_ialdN C dX0_nearestColour_53 (show ilen (8 * b + 1) = some 8 from ilen_B hb (by decide) (by decide)) (by omega) (by decide) ?_
        refine j_top C _ (hB.1 _ (by omega)) ?_
        refine j_callV C (ct_tellsColours hb hB hW hp hl (by omega) (by omega) (by omega) r1 r2 r3) dX0_nearestColour_54 (cell_B hb) (by have := hb; unfold NN; omega) (T := TX0) rfl gX0_nearestColour_X0_tellsColours rfl kd_X0_tellsColours rfl rfl (Nat.le_of_ble_eq_true rfl) ⟨by decide, by decide⟩ ⟨Nat.zero_le _, Nat.zero_le _⟩ (k_I ?_)
        refine j_if_eqB C dX0_nearestColour_57 (tgt := 68) (by decide) (fun cq57 => ?_) (fun cq57 => ?_)
        · refine j_iincN C dX0_nearestColour_68 rfl (by decide) ?_
          refine j_goto C dX0_nearestColour_71 (tgt := 10) (by decide) ?_
          exact j_pick [0, 1, 2, 3, 4, 5, 6] (by first | exact ih10 (by omega) _ (nst_f1 ha cq35) | exact ih10 (by omega) _ (nst_f2 ha cq57) | exact ih10 (by omega) (k + 1, chg σ i k) (nst_t ha cq35 cq57))
        · refine j_iload C dX0_nearestColour_60 rfl ?_
          refine j_istore C dX0_nearestColour_62 (by decide) ?_
          refine j_iload C dX0_nearestColour_64 rfl ?_
          refine j_istore C dX0_nearestColour_66 (by decide) ?_
          refine j_iincN C dX0_nearestColour_68 rfl (by decide) ?_
          refine j_goto C dX0_nearestColour_71 (tgt := 10) (by decide) ?_
          exact j_pick [0, 1, 2, 3, 4, 5, 6] (by first | exact ih10 (by omega) _ (nst_f1 ha cq35) | exact ih10 (by omega) _ (nst_f2 ha cq57) | exact ih10 (by omega) (k + 1, chg σ i k) (nst_t ha cq35 cq57))
  exact L10 0 (by omega) (0, 28) rfl

set_option maxHeartbeats 4000000 in
set_option maxRecDepth 100000 in
theorem ct_makeReadable {l : Launch} {G : GG} {M : MM} {b : Nat} {σ : Sg} (hb : b < 9) (hB : Bu M b σ) (hW : Wf σ) {p ch : Nat} {az : Nat × Nat} (hz : az = nst σ p (σ (45 + 2 * ch)) (σ (46 + 2 * ch)) 1000) (hc : ch < 6) (hp : p < 4) : Ct l G yX0_makeReadable wsX0_makeReadable 5 ([.ref (G.2.2 (8 * b)), .int (nI ch), .int (nI p)] : List Value) M (fun v M9 => v = some (.int (lsR az)) ∧ Bu M9 b (mrG az σ ch) ∧ Off M M9 (inB b)) := by
  obtain ⟨f1, f2⟩ := hW.2.2.2 ch hc
  refine Ct.of (cc := cX0_makeReadable) (maxL := 6) (ret := (some .int)) (lv := [(0, .ref (G.2.2 (8 * b))), (1, .int (nI ch)), (2, .int (nI p))]) (by decide) rfl rfl (Nat.le_of_ble_eq_true rfl) ?_
  intro pg ev sg mm bl mt cd AZ C hret
  refine j_aload_n C dX0_makeReadable_0 rfl ?_
  refine j_getf C dX0_makeReadable_1 (cell_B hb) (by have := hb; unfold NN; omega) (T := TX0) rfl in_X0_makeReadable_X0 (k := 5) (by decide) fl_X0_makeReadable_27 rfl rfl ?_
  refine j_iload_n C dX0_makeReadable_4 rfl ?_
  refine j_ialdN C dX0_makeReadable_5 (show ilen (8 * b + 6) = some 6 from ilen_B hb (by decide) (by decide)) (by omega) (by decide) ?_
  refine j_top C _ (hB.2.2.2.2.2.1 _ (by omega)) ?_
  refine j_istore_n C dX0_makeReadable_6 (by decide) ?_
  refine j_aload_n C dX0_makeReadable_7 rfl ?_
  refine j_iload_n C dX0_makeReadable_8 rfl ?_
  refine j_iload_n C dX0_makeReadable_9 rfl ?_
  refine j_aload_n C dX0_makeReadable_10 rfl ?_
  refine j_getf C dX0_makeReadable_11 (cell_B hb) (by have := hb; unfold NN; omega) (T := TX0) rfl in_X0_makeReadable_X0 (k := 6) (by decide) fl_X0_makeReadable_30 rfl rfl ?_
  refine j_iload_n C dX0_makeReadable_14 rfl ?_
  refine j_ialdN C dX0_makeReadable_15 (show ilen (8 * b + 7) = some 6 from ilen_B hb (by decide) (by decide)) (by omega) (by decide) ?_
  refine j_top C _ (hB.2.2.2.2.2.2.1 _ (by omega)) ?_
  refine j_callV C (ct_nearestColour hb hB hW hz hp (by omega) (by omega)) dX0_makeReadable_16 (cell_B hb) (by have := hb; unfold NN; omega) (T := TX0) rfl gX0_makeReadable_X0_nearestColour rfl kd_X0_nearestColour rfl rfl (Nat.le_of_ble_eq_true rfl) ⟨by decide, by decide⟩ ⟨Nat.zero_le _, Nat.zero_le _⟩ (k_I ?_)
  have hin := nst_in σ p (σ (45 + 2 * ch)) (σ (46 + 2 * ch)) 1000
  rw [← hz] at hin
  refine j_istore C dX0_makeReadable_19 (by decide) ?_
  refine j_iload C dX0_makeReadable_21 rfl ?_
  refine j_iconst C dX0_makeReadable_23 (v := -1) (by decide) ?_
  refine j_icmp_neO C dX0_makeReadable_24 (tgt := 39) (by decide) (Nat.lt_of_le_of_lt hin.1.1 (by decide)) (fun cq24 => ?_) (fun cq24 => ?_)
  · obtain ⟨k, hk1⟩ := Nat.exists_eq_succ_of_ne_zero (show az.1 ≠ 0 from cq24)
    obtain ⟨hk2, hk3, hk4⟩ := hin.2.2 k hk1
    have hk5 : k < 1000 := by have h9 : az.1 ≤ 1000 := hin.1.1; omega
    obtain ⟨q1, q2, q3, q4⟩ := hW.1 _ (show σ (45 + 2 * ch) < 8 by omega)
    refine j_aload_n C dX0_makeReadable_39 rfl ?_
    refine j_getf C dX0_makeReadable_40 (cell_B hb) (by have := hb; unfold NN; omega) (T := TX0) rfl in_X0_makeReadable_X0 (k := 0) (by decide) fl_X0_makeReadable_9 rfl rfl ?_
    refine j_iload_n C dX0_makeReadable_43 rfl ?_
    refine j_ialdN C dX0_makeReadable_44 (show ilen (8 * b + 1) = some 8 from ilen_B hb (by decide) (by decide)) (by omega) (by decide) ?_
    refine j_top C _ (hB.1 _ (by omega)) ?_
    refine j_iload C dX0_makeReadable_45 rfl ?_
    refine j_top C (_) ((congrArg oI hk1).trans (congrArg nI (cod_dig hk5))) ?_
    refine j_callS C (ct_change q1 q2 q3 (by omega) (by omega) (by omega)) dX0_makeReadable_47 gX0_makeReadable_X1_change rfl ks_X1_change rfl rfl (Nat.le_of_ble_eq_true rfl) ⟨by decide, by decide⟩ ⟨Nat.zero_le _, Nat.zero_le _⟩ (k_I ?_)
    refine j_top C (nI az.2) (congrArg nI hk2.symm) ?_
    refine j_istore C dX0_makeReadable_50 (by decide) ?_
    refine j_iload C dX0_makeReadable_52 rfl ?_
    refine j_if_leN C dX0_makeReadable_54 (tgt := 75) (by decide) (Nat.lt_trans hk4 (by decide)) (fun cq54 => ?_) (fun cq54 => ?_)
    · refine j_iload C dX0_makeReadable_75 rfl ?_
      exact j_ireturn C hret dX0_makeReadable_77 (by first | exact ⟨by rw [lsR_1 hk1], by rw [mrS_2 hk1 cq54]; exact Bu_cor (Bu_col (by omega) hB), (Off.R (by unfold inB; omega)).tr (Off.V (by unfold inB; omega))⟩ | exact ⟨by rw [lsR_1 hk1], by rw [mrS_1 hk1 (Nat.le_zero.mp cq54)]; exact hB, Off.rf⟩)
    · refine j_aload_n C dX0_makeReadable_57 rfl ?_
      refine j_getf C dX0_makeReadable_58 (cell_B hb) (by have := hb; unfold NN; omega) (T := TX0) rfl in_X0_makeReadable_X0 (k := 0) (by decide) fl_X0_makeReadable_9 rfl rfl ?_
      refine j_iload_n C dX0_makeReadable_61 rfl ?_
      refine j_iload C dX0_makeReadable_62 rfl ?_
      refine j_top C (_) ((congrArg oI hk1).trans (congrArg nI (cod_dig hk5))) ?_
      refine j_iastN C dX0_makeReadable_64 (show ilen (8 * b + 1) = some 8 from ilen_B hb (by decide) (by decide)) (by omega) (by decide) ?_
      refine j_aload_n C dX0_makeReadable_65 rfl ?_
      refine j_dup C dX0_makeReadable_66 rfl ?_
      refine j_getf C dX0_makeReadable_67 (cell_B hb) (by have := hb; unfold NN; omega) (T := TX0) rfl in_X0_makeReadable_X0 (k := 8) (by decide) fl_X0_makeReadable_43 rfl rfl ?_
      refine j_top C (_) hB.2.2.2.2.2.2.2.2.1 ?_
      refine j_iconst C dX0_makeReadable_70 (v := nI 1) (by decide) ?_
      refine j_iaddN C dX0_makeReadable_71 ?_
      refine j_putf C dX0_makeReadable_72 (cell_B hb) (by have := hb; unfold NN; omega) (T := TX0) rfl in_X0_makeReadable_X0 tyX0 tyX0_ok nmX0 (k := 8) (by decide) fl_X0_makeReadable_43 rfl rfl (by decide +kernel) (Nat.le_of_ble_eq_true rfl) (putB_8 hb) ?_
      refine j_iload C dX0_makeReadable_75 rfl ?_
      exact j_ireturn C hret dX0_makeReadable_77 (by first | exact ⟨by rw [lsR_1 hk1], by rw [mrS_2 hk1 cq54]; exact Bu_cor (Bu_col (by omega) hB), (Off.R (by unfold inB; omega)).tr (Off.V (by unfold inB; omega))⟩ | exact ⟨by rw [lsR_1 hk1], by rw [mrS_1 hk1 (Nat.le_zero.mp cq54)]; exact hB, Off.rf⟩)
  · refine j_aload_n C dX0_makeReadable_27 rfl ?_
    refine j_dup C dX0_makeReadable_28 rfl ?_
    refine j_getf C dX0_makeReadable_29 (cell_B hb) (by have := hb; unfold NN; omega) (T := TX0) rfl in_X0_makeReadable_X0 (k := 9) (by decide) fl_X0_makeReadable_46 rfl rfl ?_
    refine j_top C (_) hB.2.2.2.2.2.2.2.2.2 ?_
    refine j_iconst C dX0_makeReadable_32 (v := nI 1) (by decide) ?_
    refine j_iaddN C dX0_makeReadable_33 ?_
    refine j_putf C dX0_makeReadable_34 (cell_B hb) (by have := hb; unfold NN; omega) (T := TX0) rfl in_X0_makeReadable_X0 tyX0 tyX0_ok nmX0 (k := 9) (by decide) fl_X0_makeReadable_46 rfl rfl (by decide +kernel) (Nat.le_of_ble_eq_true rfl) (putB_9 hb) ?_
    refine j_iconst C dX0_makeReadable_37 (v := -1) (by decide) ?_
    exact j_ireturn C hret dX0_makeReadable_38 ⟨by rw [lsR_0 cq24], by rw [mrS_0 cq24]; exact Bu_ref hB, Off.V (by unfold inB; omega)⟩

set_option maxHeartbeats 4000000 in
set_option maxRecDepth 100000 in
theorem ct_labelInOrder {l : Launch} {G : GG} {M : MM} {b : Nat} {σ : Sg} (hb : b < 9) (hB : Bu M b σ) (hW : Wf σ) {p : Nat} (hp : p < 4) : Ct l G yX0_labelInOrder wsX0_labelInOrder 5 ([.ref (G.2.2 (8 * b)), .int (nI p)] : List Value) M (fun v M9 => v = none ∧ Bu M9 b (lbS σ p 8) ∧ Off M M9 (inB b)) := by
  refine Ct.of (cc := cX0_labelInOrder) (maxL := 5) (ret := none) (lv := [(0, .ref (G.2.2 (8 * b))), (1, .int (nI p))]) (by decide) rfl rfl (Nat.le_of_ble_eq_true rfl) ?_
  intro pg ev sg mm bl mt cd AZ C hret
  refine j_iconst C dX0_labelInOrder_0 (v := nI 0) (by decide) ?_
  refine j_istore_n C dX0_labelInOrder_1 (by decide) ?_
  have L2 : ∀ i, i ≤ 8 → ∀ M2, Bu M2 b (lbS σ p i) → Off M M2 (inB b) → J G pg l ev (rmD 5) sg mm ([.ref (G.2.2 (8 * b)), .int (nI p)] : List Value).toArray bl mt cd AZ 5 (MQ bl (QQ G (fun v M9 => v = none ∧ Bu M9 b (lbS σ p 8) ∧ Off M M9 (inB b)) AZ) ([.ref (G.2.2 (8 * b)), .int (nI p)] : List Value).toArray sg 0 0 AZ) 0 0 2 [(0, .ref (G.2.2 (8 * b))), (1, .int (nI p)), (2, .int (nI i))] [] (M2) := by
    refine dnto ?_
    intro i hi2 ih2 M2 hB2 ho2
    refine j_iload_n C dX0_labelInOrder_2 rfl ?_
    refine j_bipush C dX0_labelInOrder_3 (v := nI 8) (by decide) ?_
    refine j_icmp_geN C dX0_labelInOrder_5 (tgt := 64) (by decide) (by omega) (by omega) (fun cq5 => ?_) (fun cq5 => ?_)
    · have e8 : i = 8 := by omega
      subst e8
      exact j_return C hret dX0_labelInOrder_64 ⟨rfl, hB2, ho2⟩
    · have hW2 := hW.lbS (p := p) (n := i) (by omega)
      have hB := hB2
      refine j_iconst C dX0_labelInOrder_8 (v := nI 0) (by decide) ?_
      refine j_istore_n C dX0_labelInOrder_9 (by decide) ?_
      refine j_iconst C dX0_labelInOrder_10 (v := nI 0) (by decide) ?_
      refine j_istore C dX0_labelInOrder_11 (by decide) ?_
      have L13 : ∀ a, a ≤ i → ∀ acc, acc = barr (lbS σ p i) p i a → acc < 128 → J G pg l ev (rmD 5) sg mm ([.ref (G.2.2 (8 * b)), .int (nI p)] : List Value).toArray bl mt cd AZ 5 (MQ bl (QQ G (fun v M9 => v = none ∧ Bu M9 b (lbS σ p 8) ∧ Off M M9 (inB b)) AZ) ([.ref (G.2.2 (8 * b)), .int (nI p)] : List Value).toArray sg 0 0 AZ) 0 0 13 [(0, .ref (G.2.2 (8 * b))), (1, .int (nI p)), (2, .int (nI i)), (3, .int (nI acc)), (4, .int (nI a))] [] (M2) := by
        refine dnto ?_
        intro a ha13 ih13 acc hacc hlt
        refine j_iload C dX0_labelInOrder_13 rfl ?_
        refine j_iload_n C dX0_labelInOrder_15 rfl ?_
        refine j_icmp_geN C dX0_labelInOrder_16 (tgt := 48) (by decide) (by omega) (by omega) (fun cq16 => ?_) (fun cq16 => ?_)
        · refine j_aload_n C dX0_labelInOrder_48 rfl ?_
          refine j_getf C dX0_labelInOrder_49 (cell_B hb) (by have := hb; unfold NN; omega) (T := TX0) rfl in_X0_labelInOrder_X0 (k := 1) (by decide) fl_X0_labelInOrder_15 rfl rfl ?_
          refine j_iload_n C dX0_labelInOrder_52 rfl ?_
          refine j_iload_n C dX0_labelInOrder_53 rfl ?_
          have e9 : acc = barr (lbS σ p i) p i i := by rw [hacc, show a = i by omega]
          subst e9
          refine j_callS C (ct_leastOutside hlt) dX0_labelInOrder_54 gX0_labelInOrder_X0_leastOutside rfl ks_X0_leastOutside rfl rfl (Nat.le_of_ble_eq_true rfl) ⟨by decide, by decide⟩ ⟨Nat.zero_le _, Nat.zero_le _⟩ (k_I ?_)
          refine j_top C (oI (low (barr (lbS σ p i) p i i) + 1)) rfl ?_
          refine j_iastN C dX0_labelInOrder_57 (show ilen (8 * b + 2) = some 8 from ilen_B hb (by decide) (by decide)) (by omega) (by decide) ?_
          refine j_iincN C dX0_labelInOrder_58 rfl (by decide) ?_
          refine j_goto C dX0_labelInOrder_61 (tgt := 2) (by decide) ?_
          exact j_pick [0, 1, 2] (ih2 (by omega) _ (Bu_lab (by omega) hB2) (ho2.tr (Off.R (by unfold inB; omega))))
        · refine j_aload_n C dX0_labelInOrder_19 rfl ?_
          refine j_iload_n C dX0_labelInOrder_20 rfl ?_
          refine j_iload C dX0_labelInOrder_21 rfl ?_
          refine j_iload_n C dX0_labelInOrder_23 rfl ?_
          refine j_callV C (ct_tells hb hB2 hW2 hp (by omega) (by omega)) dX0_labelInOrder_24 (cell_B hb) (by have := hb; unfold NN; omega) (T := TX0) rfl gX0_labelInOrder_X0_tells rfl kd_X0_tells rfl rfl (Nat.le_of_ble_eq_true rfl) ⟨by decide, by decide⟩ ⟨Nat.zero_le _, Nat.zero_le _⟩ (k_I ?_)
          refine j_if_eqB C dX0_labelInOrder_27 (tgt := 42) (by decide) (fun cq27 => ?_) (fun cq27 => ?_)
          · refine j_iincN C dX0_labelInOrder_42 rfl (by decide) ?_
            refine j_goto C dX0_labelInOrder_45 (tgt := 13) (by decide) ?_
            exact ih13 (by omega) _ (by first | exact or_t hacc (by show cond _ _ _ = _; rw [cq27]; rfl) | exact or_f hacc (by show cond _ _ _ = _; rw [cq27]; rfl)) (by first | exact hlt | exact Nat.or_lt_two_pow (n := 7) hlt (Nat.pow_lt_pow_right (by decide) (by omega)))
          · have hle := lbS_le (σ := σ) (p := p) (n := i) (by omega) cq16
            have hat := lbS_at (σ := σ) (p := p) cq16
            refine j_iload_n C dX0_labelInOrder_30 rfl ?_
            refine j_iconst C dX0_labelInOrder_31 (v := nI 1) (by decide) ?_
            refine j_aload_n C dX0_labelInOrder_32 rfl ?_
            refine j_getf C dX0_labelInOrder_33 (cell_B hb) (by have := hb; unfold NN; omega) (T := TX0) rfl in_X0_labelInOrder_X0 (k := 1) (by decide) fl_X0_labelInOrder_15 rfl rfl ?_
            refine j_iload C dX0_labelInOrder_36 rfl ?_
            refine j_ialdN C dX0_labelInOrder_38 (show ilen (8 * b + 2) = some 8 from ilen_B hb (by decide) (by decide)) (by omega) (by decide) ?_
            refine j_top C _ (hB.2.1 _ (by omega)) ?_
            refine j_top C (_) (oI_pos (by omega)) ?_
            refine j_ishl C dX0_labelInOrder_39 ?_
            refine j_top C (_) (nI_shl1 (by omega)) ?_
            refine j_ior C dX0_labelInOrder_40 ?_
            refine j_top C (_) (nI_or (by omega) (Nat.pow_lt_pow_right (by decide) (by omega))) ?_
            refine j_istore_n C dX0_labelInOrder_41 (by decide) ?_
            refine j_iincN C dX0_labelInOrder_42 rfl (by decide) ?_
            refine j_goto C dX0_labelInOrder_45 (tgt := 13) (by decide) ?_
            exact ih13 (by omega) _ (by first | exact or_t hacc (by show cond _ _ _ = _; rw [cq27]; rfl) | exact or_f hacc (by show cond _ _ _ = _; rw [cq27]; rfl)) (by first | exact hlt | exact Nat.or_lt_two_pow (n := 7) hlt (Nat.pow_lt_pow_right (by decide) (by omega)))
      exact L13 0 (by omega) 0 rfl (by omega)
  exact L2 0 (by omega) M hB Off.rf

set_option maxHeartbeats 4000000 in
set_option maxRecDepth 100000 in
theorem ct_addChart {l : Launch} {G : GG} {M : MM} {b : Nat} {σ : Sg} (hb : b < 9) (hB : Bu M b σ) (hW : Wf σ) {f g : Nat} : Ct l G yX0_addChart wsX0_addChart 1 ([.ref (G.2.2 (8 * b)), .int (nI f), .int (nI g)] : List Value) M (fun v M9 => v = some (.int (adR σ)) ∧ Bu M9 b (adS σ f g) ∧ Off M M9 (inB b)) := by
  have h44 := hW.2.2.1
  refine Ct.of (cc := cX0_addChart) (maxL := 3) (ret := (some .int)) (lv := [(0, .ref (G.2.2 (8 * b))), (1, .int (nI f)), (2, .int (nI g))]) (by decide) rfl rfl (Nat.le_of_ble_eq_true rfl) ?_
  intro pg ev sg mm bl mt cd AZ C hret
  refine j_aload_n C dX0_addChart_0 rfl ?_
  refine j_getf C dX0_addChart_1 (cell_B hb) (by have := hb; unfold NN; omega) (T := TX0) rfl in_X0_addChart_X0 (k := 7) (by decide) fl_X0_addChart_39 rfl rfl ?_
  refine j_top C (_) hB.2.2.2.2.2.2.2.1 ?_
  refine j_bipush C dX0_addChart_4 (v := nI 6) (by decide) ?_
  refine j_icmp_ltN C dX0_addChart_6 (tgt := 21) (by decide) (by omega) (by omega) (fun cq6 => ?_) (fun cq6 => ?_)
  · refine j_aload_n C dX0_addChart_21 rfl ?_
    refine j_getf C dX0_addChart_22 (cell_B hb) (by have := hb; unfold NN; omega) (T := TX0) rfl in_X0_addChart_X0 (k := 5) (by decide) fl_X0_addChart_27 rfl rfl ?_
    refine j_aload_n C dX0_addChart_25 rfl ?_
    refine j_getf C dX0_addChart_26 (cell_B hb) (by have := hb; unfold NN; omega) (T := TX0) rfl in_X0_addChart_X0 (k := 7) (by decide) fl_X0_addChart_39 rfl rfl ?_
    refine j_top C (_) hB.2.2.2.2.2.2.2.1 ?_
    refine j_iload_n C dX0_addChart_29 rfl ?_
    refine j_iastN C dX0_addChart_30 (show ilen (8 * b + 6) = some 6 from ilen_B hb (by decide) (by decide)) (by omega) (by decide) ?_
    refine j_aload_n C dX0_addChart_31 rfl ?_
    refine j_getf C dX0_addChart_32 (cell_B hb) (by have := hb; unfold NN; omega) (T := TX0) rfl in_X0_addChart_X0 (k := 6) (by decide) fl_X0_addChart_30 rfl rfl ?_
    refine j_aload_n C dX0_addChart_35 rfl ?_
    refine j_getf C dX0_addChart_36 (cell_B hb) (by have := hb; unfold NN; omega) (T := TX0) rfl in_X0_addChart_X0 (k := 7) (by decide) fl_X0_addChart_39 rfl rfl ?_
    refine j_top C (_) hB.2.2.2.2.2.2.2.1 ?_
    refine j_iload_n C dX0_addChart_39 rfl ?_
    refine j_iastN C dX0_addChart_40 (show ilen (8 * b + 7) = some 6 from ilen_B hb (by decide) (by decide)) (by omega) (by decide) ?_
    refine j_aload_n C dX0_addChart_41 rfl ?_
    refine j_dup C dX0_addChart_42 rfl ?_
    refine j_getf C dX0_addChart_43 (cell_B hb) (by have := hb; unfold NN; omega) (T := TX0) rfl in_X0_addChart_X0 (k := 7) (by decide) fl_X0_addChart_39 rfl rfl ?_
    refine j_top C (_) hB.2.2.2.2.2.2.2.1 ?_
    refine j_iconst C dX0_addChart_46 (v := nI 1) (by decide) ?_
    refine j_iaddN C dX0_addChart_47 ?_
    refine j_putf C dX0_addChart_48 (cell_B hb) (by have := hb; unfold NN; omega) (T := TX0) rfl in_X0_addChart_X0 tyX0 tyX0_ok nmX0 (k := 7) (by decide) fl_X0_addChart_39 rfl rfl (by decide +kernel) (Nat.le_of_ble_eq_true rfl) (putB_7 hb) ?_
    refine j_aload_n C dX0_addChart_51 rfl ?_
    refine j_getf C dX0_addChart_52 (cell_B hb) (by have := hb; unfold NN; omega) (T := TX0) rfl in_X0_addChart_X0 (k := 7) (by decide) fl_X0_addChart_39 rfl rfl ?_
    refine j_top C (_) setV_eq ?_
    refine j_iconst C dX0_addChart_55 (v := nI 1) (by decide) ?_
    refine j_isubN C dX0_addChart_56 (by omega) ?_
    exact j_ireturn C hret dX0_addChart_57 ⟨by unfold adR; rw [if_neg (by omega)]; rfl, by unfold adS; rw [if_neg (by omega)]; exact Bu_chs (Bu_gnd (by omega) (Bu_fig (by omega) hB)), ((Off.R (by unfold inB; omega)).tr (Off.R (by unfold inB; omega))).tr (Off.V (by unfold inB; omega))⟩
  · refine j_aload_n C dX0_addChart_9 rfl ?_
    refine j_dup C dX0_addChart_10 rfl ?_
    refine j_getf C dX0_addChart_11 (cell_B hb) (by have := hb; unfold NN; omega) (T := TX0) rfl in_X0_addChart_X0 (k := 9) (by decide) fl_X0_addChart_46 rfl rfl ?_
    refine j_top C (_) hB.2.2.2.2.2.2.2.2.2 ?_
    refine j_iconst C dX0_addChart_14 (v := nI 1) (by decide) ?_
    refine j_iaddN C dX0_addChart_15 ?_
    refine j_putf C dX0_addChart_16 (cell_B hb) (by have := hb; unfold NN; omega) (T := TX0) rfl in_X0_addChart_X0 tyX0 tyX0_ok nmX0 (k := 9) (by decide) fl_X0_addChart_46 rfl rfl (by decide +kernel) (Nat.le_of_ble_eq_true rfl) (putB_9 hb) ?_
    refine j_iconst C dX0_addChart_19 (v := -1) (by decide) ?_
    exact j_ireturn C hret dX0_addChart_20 ⟨by unfold adR; rw [if_pos cq6], by unfold adS; rw [if_pos cq6]; exact Bu_ref hB, Off.V (by unfold inB; omega)⟩

set_option maxHeartbeats 4000000 in
set_option maxRecDepth 100000 in
theorem ct_removeChart {l : Launch} {G : GG} {M : MM} {b : Nat} {σ : Sg} (hb : b < 9) (hB : Bu M b σ) (hW : Wf σ) {ch : Nat} (hc : ch < σ 44) : Ct l G yX0_removeChart wsX0_removeChart 1 ([.ref (G.2.2 (8 * b)), .int (nI ch)] : List Value) M (fun v M9 => v = none ∧ Bu M9 b (rmS σ ch) ∧ Off M M9 (inB b)) := by
  have h44 := hW.2.2.1
  refine Ct.of (cc := cX0_removeChart) (maxL := 3) (ret := none) (lv := [(0, .ref (G.2.2 (8 * b))), (1, .int (nI ch))]) (by decide) rfl rfl (Nat.le_of_ble_eq_true rfl) ?_
  intro pg ev sg mm bl mt cd AZ C hret
  refine j_iload_n C dX0_removeChart_0 rfl ?_
  refine j_iconst C dX0_removeChart_1 (v := nI 1) (by decide) ?_
  refine j_iaddN C dX0_removeChart_2 ?_
  refine j_istore_n C dX0_removeChart_3 (by decide) ?_
  have L4 : ∀ n, n ≤ σ 44 → ch < n → ∀ M2, Bu M2 b (rmK σ ch n) → Off M M2 (inB b) → J G pg l ev (rmD 1) sg mm ([.ref (G.2.2 (8 * b)), .int (nI ch)] : List Value).toArray bl mt cd AZ 3 (MQ bl (QQ G (fun v M9 => v = none ∧ Bu M9 b (rmS σ ch) ∧ Off M M9 (inB b)) AZ) ([.ref (G.2.2 (8 * b)), .int (nI ch)] : List Value).toArray sg 0 0 AZ) 0 0 4 [(0, .ref (G.2.2 (8 * b))), (1, .int (nI ch)), (2, .int (nI n))] [] (M2) := by
    refine dnto ?_
    intro n hn4 ih4 hcn M2 hB2 ho2
    have e44 := rmK_lo (σ := σ) (c := ch) (n := n) (j := 44) (by decide)
    have hB := hB2
    refine j_iload_n C dX0_removeChart_4 rfl ?_
    refine j_aload_n C dX0_removeChart_5 rfl ?_
    refine j_getf C dX0_removeChart_6 (cell_B hb) (by have := hb; unfold NN; omega) (T := TX0) rfl in_X0_removeChart_X0 (k := 7) (by decide) fl_X0_removeChart_39 rfl rfl ?_
    refine j_top C (_) hB.2.2.2.2.2.2.2.1 ?_
    refine j_icmp_geN C dX0_removeChart_9 (tgt := 46) (by decide) (by omega) (by omega) (fun cq9 => ?_) (fun cq9 => ?_)
    · refine j_aload_n C dX0_removeChart_46 rfl ?_
      refine j_dup C dX0_removeChart_47 rfl ?_
      refine j_getf C dX0_removeChart_48 (cell_B hb) (by have := hb; unfold NN; omega) (T := TX0) rfl in_X0_removeChart_X0 (k := 7) (by decide) fl_X0_removeChart_39 rfl rfl ?_
      refine j_top C (_) hB.2.2.2.2.2.2.2.1 ?_
      refine j_iconst C dX0_removeChart_51 (v := nI 1) (by decide) ?_
      refine j_isubN C dX0_removeChart_52 (by omega) ?_
      refine j_putf C dX0_removeChart_53 (cell_B hb) (by have := hb; unfold NN; omega) (T := TX0) rfl in_X0_removeChart_X0 tyX0 tyX0_ok nmX0 (k := 7) (by decide) fl_X0_removeChart_39 rfl rfl (by decide +kernel) (Nat.le_of_ble_eq_true rfl) (putB_7 hb) ?_
      have e9 : n = σ 44 := by omega
      subst e9
      exact j_return C hret dX0_removeChart_56 ⟨rfl, by rw [e44]; exact Bu_chs hB2, ho2.tr (Off.V (by unfold inB; omega))⟩
    · refine j_aload_n C dX0_removeChart_12 rfl ?_
      refine j_getf C dX0_removeChart_13 (cell_B hb) (by have := hb; unfold NN; omega) (T := TX0) rfl in_X0_removeChart_X0 (k := 5) (by decide) fl_X0_removeChart_27 rfl rfl ?_
      refine j_iload_n C dX0_removeChart_16 rfl ?_
      refine j_iconst C dX0_removeChart_17 (v := nI 1) (by decide) ?_
      refine j_isubN C dX0_removeChart_18 (by omega) ?_
      refine j_aload_n C dX0_removeChart_19 rfl ?_
      refine j_getf C dX0_removeChart_20 (cell_B hb) (by have := hb; unfold NN; omega) (T := TX0) rfl in_X0_removeChart_X0 (k := 5) (by decide) fl_X0_removeChart_27 rfl rfl ?_
      refine j_iload_n C dX0_removeChart_23 rfl ?_
      refine j_ialdN C dX0_removeChart_24 (show ilen (8 * b + 6) = some 6 from ilen_B hb (by decide) (by decide)) (by omega) (by decide) ?_
      refine j_top C _ (hB.2.2.2.2.2.1 _ (by omega)) ?_
      refine j_iastN C dX0_removeChart_25 (show ilen (8 * b + 6) = some 6 from ilen_B hb (by decide) (by decide)) (by omega) (by decide) ?_
      refine j_aload_n C dX0_removeChart_26 rfl ?_
      refine j_getf C dX0_removeChart_27 (cell_B hb) (by have := hb; unfold NN; omega) (T := TX0) rfl in_X0_removeChart_X0 (k := 6) (by decide) fl_X0_removeChart_30 rfl rfl ?_
      refine j_iload_n C dX0_removeChart_30 rfl ?_
      refine j_iconst C dX0_removeChart_31 (v := nI 1) (by decide) ?_
      refine j_isubN C dX0_removeChart_32 (by omega) ?_
      refine j_aload_n C dX0_removeChart_33 rfl ?_
      refine j_getf C dX0_removeChart_34 (cell_B hb) (by have := hb; unfold NN; omega) (T := TX0) rfl in_X0_removeChart_X0 (k := 6) (by decide) fl_X0_removeChart_30 rfl rfl ?_
      refine j_iload_n C dX0_removeChart_37 rfl ?_
      refine j_ialdN C dX0_removeChart_38 (show ilen (8 * b + 7) = some 6 from ilen_B hb (by decide) (by decide)) (by omega) (by decide) ?_
      refine j_top C _ ((congrFun (setR_ne (by omega)) _).trans (hB.2.2.2.2.2.2.1 _ (by omega))) ?_
      refine j_iastN C dX0_removeChart_39 (show ilen (8 * b + 7) = some 6 from ilen_B hb (by decide) (by decide)) (by omega) (by decide) ?_
      refine j_iincN C dX0_removeChart_40 rfl (by decide) ?_
      refine j_goto C dX0_removeChart_43 (tgt := 4) (by decide) ?_
      exact ih4 (by omega) (by omega) _ (by rw [← rmK_s hcn, ← rmK_hi (σ := σ) (c := ch) (n := n) (j := 45 + 2 * n) (by omega), ← rmK_hi (σ := σ) (c := ch) (n := n) (j := 46 + 2 * n) (by omega)]; exact Bu_gnd (by omega) (Bu_fig (by omega) hB2)) ((ho2.tr (Off.R (by unfold inB; omega))).tr (Off.R (by unfold inB; omega)))
  exact L4 (ch + 1) (by omega) (by omega) M (by rw [rmK_0]; exact hB) Off.rf
