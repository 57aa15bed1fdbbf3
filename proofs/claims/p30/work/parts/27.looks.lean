set_option maxRecDepth 20000 in
theorem in_X5_potOf_X5 : ∀ w ∈ wsX50, w ∈ wsX5_potOf := by decide +kernel
set_option maxRecDepth 20000 in
theorem fl_X5_potOf_12 : Cond.fieldLink RX5 12 "PotLabels" "bureau" "LPotLabels$Bureau;" ∈ wsX5_potOf := by decide +kernel
set_option maxRecDepth 20000 in
theorem kd_X0_tellersOf : yX0_tellersOf.cls = RX0 ∧ yX0_tellersOf.cls ≠ "java/lang/invoke/MethodHandle" ∧ yX0_tellersOf.cls ≠ "java/lang/invoke/VarHandle" ∧ (parseMethodDescriptor yX0_tellersOf.desc).map (fun d => d.parameters.length) = some 1 := by decide +kernel
set_option maxRecDepth 20000 in
theorem in_X5_potOf_X0 : ∀ w ∈ wsX00, w ∈ wsX5_potOf := by decide +kernel
set_option maxRecDepth 20000 in
theorem in_X5_seen_X5 : ∀ w ∈ wsX50, w ∈ wsX5_seen := by decide +kernel
set_option maxRecDepth 20000 in
theorem fl_X5_seen_12 : Cond.fieldLink RX5 12 "PotLabels" "bureau" "LPotLabels$Bureau;" ∈ wsX5_seen := by decide +kernel
set_option maxRecDepth 20000 in
theorem in_X5_seen_X0 : ∀ w ∈ wsX00, w ∈ wsX5_seen := by decide +kernel
set_option maxRecDepth 20000 in
theorem in_X5_painterOf_X5 : ∀ w ∈ wsX50, w ∈ wsX5_painterOf := by decide +kernel
set_option maxRecDepth 20000 in
theorem fl_X5_painterOf_12 : Cond.fieldLink RX5 12 "PotLabels" "bureau" "LPotLabels$Bureau;" ∈ wsX5_painterOf := by decide +kernel
set_option maxRecDepth 20000 in
theorem in_X5_painterOf_X0 : ∀ w ∈ wsX00, w ∈ wsX5_painterOf := by decide +kernel
set_option maxRecDepth 20000 in
theorem kd_X0_chartsRead : yX0_chartsRead.cls = RX0 ∧ yX0_chartsRead.cls ≠ "java/lang/invoke/MethodHandle" ∧ yX0_chartsRead.cls ≠ "java/lang/invoke/VarHandle" ∧ (parseMethodDescriptor yX0_chartsRead.desc).map (fun d => d.parameters.length) = some 1 := by decide +kernel
set_option maxRecDepth 20000 in
theorem in_X5_apart_X5 : ∀ w ∈ wsX50, w ∈ wsX5_apart := by decide +kernel
set_option maxRecDepth 20000 in
theorem fl_X5_apart_12 : Cond.fieldLink RX5 12 "PotLabels" "bureau" "LPotLabels$Bureau;" ∈ wsX5_apart := by decide +kernel
set_option maxRecDepth 20000 in
theorem in_X5_chartOf_X5 : ∀ w ∈ wsX50, w ∈ wsX5_chartOf := by decide +kernel
set_option maxRecDepth 20000 in
theorem fl_X5_chartOf_12 : Cond.fieldLink RX5 12 "PotLabels" "bureau" "LPotLabels$Bureau;" ∈ wsX5_chartOf := by decide +kernel
set_option maxRecDepth 20000 in
theorem in_X5_chartOf_X0 : ∀ w ∈ wsX00, w ∈ wsX5_chartOf := by decide +kernel
set_option maxRecDepth 20000 in
theorem nl_X5_190 : Cond.fieldLinkNest "PotLabels" 190 "PotLabels$Bureau" "figures" "[I" "PotLabels" ∈ nestF := by decide +kernel
set_option maxRecDepth 20000 in
theorem nl_X5_193 : Cond.fieldLinkNest "PotLabels" 193 "PotLabels$Bureau" "grounds" "[I" "PotLabels" ∈ nestF := by decide +kernel
set_option maxRecDepth 20000 in
theorem in_X5_count_X5 : ∀ w ∈ wsX50, w ∈ wsX5_count := by decide +kernel
set_option maxRecDepth 20000 in
theorem fl_X5_count_12 : Cond.fieldLink RX5 12 "PotLabels" "bureau" "LPotLabels$Bureau;" ∈ wsX5_count := by decide +kernel
set_option maxRecDepth 20000 in
theorem in_X5_count_X0 : ∀ w ∈ wsX00, w ∈ wsX5_count := by decide +kernel
set_option maxRecDepth 20000 in
theorem kd_X0_pairsToldByNobody : yX0_pairsToldByNobody.cls = RX0 ∧ yX0_pairsToldByNobody.cls ≠ "java/lang/invoke/MethodHandle" ∧ yX0_pairsToldByNobody.cls ≠ "java/lang/invoke/VarHandle" ∧ (parseMethodDescriptor yX0_pairsToldByNobody.desc).map (fun d => d.parameters.length) = some 0 := by decide +kernel
set_option maxRecDepth 20000 in
theorem kd_X0_paintersServed : yX0_paintersServed.cls = RX0 ∧ yX0_paintersServed.cls ≠ "java/lang/invoke/MethodHandle" ∧ yX0_paintersServed.cls ≠ "java/lang/invoke/VarHandle" ∧ (parseMethodDescriptor yX0_paintersServed.desc).map (fun d => d.parameters.length) = some 0 := by decide +kernel
set_option maxRecDepth 20000 in
theorem nl_X5_207 : Cond.fieldLinkNest "PotLabels" 207 "PotLabels$Bureau" "corrections" "I" "PotLabels" ∈ nestF := by decide +kernel
set_option maxRecDepth 20000 in
theorem nl_X5_210 : Cond.fieldLinkNest "PotLabels" 210 "PotLabels$Bureau" "refusals" "I" "PotLabels" ∈ nestF := by decide +kernel
set_option maxRecDepth 20000 in
theorem fl_X5_count_19 : Cond.fieldLink RX5 19 "PotLabels" "memory" "LPotLabels$Memory;" ∈ wsX5_count := by decide +kernel
set_option maxRecDepth 20000 in
theorem in_X5_count_X3 : ∀ w ∈ wsX30, w ∈ wsX5_count := by decide +kernel
set_option maxRecDepth 20000 in
theorem in_X5_ifBorrowed_X5 : ∀ w ∈ wsX50, w ∈ wsX5_ifBorrowed := by decide +kernel
set_option maxRecDepth 20000 in
theorem fl_X5_ifBorrowed_12 : Cond.fieldLink RX5 12 "PotLabels" "bureau" "LPotLabels$Bureau;" ∈ wsX5_ifBorrowed := by decide +kernel
set_option maxRecDepth 20000 in
theorem in_X5_leastChange_X5 : ∀ w ∈ wsX50, w ∈ wsX5_leastChange := by decide +kernel
set_option maxRecDepth 20000 in
theorem fl_X5_leastChange_12 : Cond.fieldLink RX5 12 "PotLabels" "bureau" "LPotLabels$Bureau;" ∈ wsX5_leastChange := by decide +kernel
set_option maxRecDepth 20000 in
theorem in_X5_leastChange_X0 : ∀ w ∈ wsX00, w ∈ wsX5_leastChange := by decide +kernel
set_option maxRecDepth 20000 in
theorem in_X5_bestPainter_X5 : ∀ w ∈ wsX50, w ∈ wsX5_bestPainter := by decide +kernel
set_option maxRecDepth 20000 in
theorem fl_X5_bestPainter_12 : Cond.fieldLink RX5 12 "PotLabels" "bureau" "LPotLabels$Bureau;" ∈ wsX5_bestPainter := by decide +kernel
set_option maxRecDepth 20000 in
theorem in_X5_bestPainter_X0 : ∀ w ∈ wsX00, w ∈ wsX5_bestPainter := by decide +kernel
set_option maxRecDepth 20000 in
theorem cst_X5_apartShare_231 : Cond.constantDouble RX5 231 (4637581716284768256) ∈ wsX5_apartShare := by decide +kernel
set_option maxRecDepth 20000 in
theorem in_X5_apartShare_X5 : ∀ w ∈ wsX50, w ∈ wsX5_apartShare := by decide +kernel
set_option maxRecDepth 20000 in
theorem fl_X5_apartShare_12 : Cond.fieldLink RX5 12 "PotLabels" "bureau" "LPotLabels$Bureau;" ∈ wsX5_apartShare := by decide +kernel
set_option maxRecDepth 20000 in
theorem in_X5_apartShare_X0 : ∀ w ∈ wsX00, w ∈ wsX5_apartShare := by decide +kernel
set_option maxHeartbeats 4000000 in
set_option maxRecDepth 100000 in
theorem ct_potOf {l : Launch} {G : GG} {M : MM} {S : SS} (hX : Xc M S) (hO : OkS S) {i k : Nat} (hi : i < 8) (hk : k ≤ 4) : Ct l G yX5_potOf wsX5_potOf 6 ([.ref (G.2.2 72), .int (nI i), .int (nI k)] : List Value) M (rI (ofP S.1 i k) M) := by
  have hB := hX.1
  have hW := hO.1
  obtain ⟨q1, q2, q3, q4⟩ := hW.1 i hi
  refine Ct.of (cc := cX5_potOf) (maxL := 3) (ret := (some .int)) (lv := [(0, .ref (G.2.2 72)), (1, .int (nI i)), (2, .int (nI k))]) (by decide) rfl rfl (Nat.le_of_ble_eq_true rfl) ?_
  intro pg ev sg mm bl mt cd AZ C hret
  refine j_iload_n C dX5_potOf_0 rfl ?_
  refine j_callS C (ct_needPot (by omega)) dX5_potOf_1 gX5_potOf_X5_needPot rfl ks_X5_needPot rfl rfl (Nat.le_of_ble_eq_true rfl) ⟨by decide, by decide⟩ ⟨Nat.zero_le _, Nat.zero_le _⟩ (k_V ?_)
  refine j_iload_n C dX5_potOf_4 rfl ?_
  refine j_iconst C dX5_potOf_5 (v := nI 0) (by decide) ?_
  refine j_iconst C dX5_potOf_6 (v := nI 4) (by decide) ?_
  refine j_callS C (ct_needWithin (by omega) (by omega) (by omega)) dX5_potOf_7 gX5_potOf_X5_needWithin rfl ks_X5_needWithin rfl rfl (Nat.le_of_ble_eq_true rfl) ⟨by decide, by decide⟩ ⟨Nat.zero_le _, Nat.zero_le _⟩ (k_V ?_)
  refine j_iload_n C dX5_potOf_10 rfl ?_
  refine j_iconst C dX5_potOf_11 (v := nI 3) (by decide) ?_
  refine j_icmp_geN C dX5_potOf_12 (tgt := 29) (by decide) (by omega) (by omega) (fun cq12 => ?_) (fun cq12 => ?_)
  · refine j_iload_n C dX5_potOf_29 rfl ?_
    refine j_iconst C dX5_potOf_30 (v := nI 3) (by decide) ?_
    refine j_icmp_neN C dX5_potOf_31 (tgt := 46) (by decide) (by omega) (by omega) (fun cq31 => ?_) (fun cq31 => ?_)
    · refine j_aload_n C dX5_potOf_46 rfl ?_
      refine j_getf C dX5_potOf_47 rfl (by decide) (T := TX5) rfl in_X5_potOf_X5 (k := 0) (by decide) fl_X5_potOf_12 rfl rfl ?_
      refine j_iload_n C dX5_potOf_50 rfl ?_
      refine j_callV C (ct_tellersOf (b := 0) (by decide) hB hW (by omega)) dX5_potOf_51 (cell_B (b := 0) (by decide)) (by decide) (T := TX0) rfl gX5_potOf_X0_tellersOf rfl kd_X0_tellersOf rfl rfl (Nat.le_of_ble_eq_true rfl) ⟨by decide, by decide⟩ ⟨Nat.zero_le _, Nat.zero_le _⟩ (k_I ?_)
      exact j_ireturn C hret dX5_potOf_54 (by first | exact ⟨congrArg (fun z => some (Value.int z)) (by unfold ofP; rw [if_neg (Nat.not_lt.mpr cq12), if_pos cq31]), rfl⟩ | exact ⟨congrArg (fun z => some (Value.int z)) (by unfold ofP; rw [if_neg (Nat.not_lt.mpr cq12), if_neg cq31]), rfl⟩)
    · refine j_aload_n C dX5_potOf_34 rfl ?_
      refine j_getf C dX5_potOf_35 rfl (by decide) (T := TX5) rfl in_X5_potOf_X5 (k := 0) (by decide) fl_X5_potOf_12 rfl rfl ?_
      refine j_getfN C dX5_potOf_38 (cell_B (b := 0) (by decide)) (by decide) (T := TX0) rfl in_X5_potOf_X0 (k := 1) (by decide) nl_X5_75 rfl rfl ?_
      refine j_iload_n C dX5_potOf_41 rfl ?_
      refine j_ialdN C dX5_potOf_42 (show ilen 2 = some 8 from rfl) (by omega) (by decide) ?_
      refine j_top C _ (hB.2.1 _ (by omega)) ?_
      refine j_goto C dX5_potOf_43 (tgt := 54) (by decide) ?_
      exact j_ireturn C hret dX5_potOf_54 (by first | exact ⟨congrArg (fun z => some (Value.int z)) (by unfold ofP; rw [if_neg (Nat.not_lt.mpr cq12), if_pos cq31]), rfl⟩ | exact ⟨congrArg (fun z => some (Value.int z)) (by unfold ofP; rw [if_neg (Nat.not_lt.mpr cq12), if_neg cq31]), rfl⟩)
  · refine j_aload_n C dX5_potOf_15 rfl ?_
    refine j_getf C dX5_potOf_16 rfl (by decide) (T := TX5) rfl in_X5_potOf_X5 (k := 0) (by decide) fl_X5_potOf_12 rfl rfl ?_
    refine j_getfN C dX5_potOf_19 (cell_B (b := 0) (by decide)) (by decide) (T := TX0) rfl in_X5_potOf_X0 (k := 0) (by decide) nl_X5_49 rfl rfl ?_
    refine j_iload_n C dX5_potOf_22 rfl ?_
    refine j_ialdN C dX5_potOf_23 (show ilen 1 = some 8 from rfl) (by omega) (by decide) ?_
    refine j_top C _ (hB.1 _ (by omega)) ?_
    refine j_iload_n C dX5_potOf_24 rfl ?_
    refine j_callS C (ct_partOf q1 q2 q3 (by omega)) dX5_potOf_25 gX5_potOf_X1_partOf rfl ks_X1_partOf rfl rfl (Nat.le_of_ble_eq_true rfl) ⟨by decide, by decide⟩ ⟨Nat.zero_le _, Nat.zero_le _⟩ (k_I ?_)
    exact j_ireturn C hret dX5_potOf_28 ⟨congrArg (fun z => some (Value.int z)) (by unfold ofP; rw [if_pos cq12]), rfl⟩

set_option maxHeartbeats 4000000 in
set_option maxRecDepth 100000 in
theorem ct_seen {l : Launch} {G : GG} {M : MM} {S : SS} (hX : Xc M S) (hO : OkS S) {p i : Nat} (hp : p < 4) (hi : i < 8) : Ct l G yX5_seen wsX5_seen 2 ([.ref (G.2.2 72), .int (nI p), .int (nI i)] : List Value) M (rI (nI (sen S.1 p i)) M) := by
  have hB := hX.1
  have hW := hO.1
  obtain ⟨q1, q2, q3, q4⟩ := hW.1 i hi
  obtain ⟨hk, hs, hl⟩ := hW.2.1 p hp
  refine Ct.of (cc := cX5_seen) (maxL := 3) (ret := (some .int)) (lv := [(0, .ref (G.2.2 72)), (1, .int (nI p)), (2, .int (nI i))]) (by decide) rfl rfl (Nat.le_of_ble_eq_true rfl) ?_
  intro pg ev sg mm bl mt cd AZ C hret
  refine j_iload_n C dX5_seen_0 rfl ?_
  refine j_callS C (ct_needPainter (by omega)) dX5_seen_1 gX5_seen_X5_needPainter rfl ks_X5_needPainter rfl rfl (Nat.le_of_ble_eq_true rfl) ⟨by decide, by decide⟩ ⟨Nat.zero_le _, Nat.zero_le _⟩ (k_V ?_)
  refine j_iload_n C dX5_seen_4 rfl ?_
  refine j_callS C (ct_needPot (by omega)) dX5_seen_5 gX5_seen_X5_needPot rfl ks_X5_needPot rfl rfl (Nat.le_of_ble_eq_true rfl) ⟨by decide, by decide⟩ ⟨Nat.zero_le _, Nat.zero_le _⟩ (k_V ?_)
  refine j_aload_n C dX5_seen_8 rfl ?_
  refine j_getf C dX5_seen_9 rfl (by decide) (T := TX5) rfl in_X5_seen_X5 (k := 0) (by decide) fl_X5_seen_12 rfl rfl ?_
  refine j_getfN C dX5_seen_12 (cell_B (b := 0) (by decide)) (by decide) (T := TX0) rfl in_X5_seen_X0 (k := 2) (by decide) nl_X5_66 rfl rfl ?_
  refine j_iload_n C dX5_seen_15 rfl ?_
  refine j_ialdN C dX5_seen_16 (show ilen 3 = some 4 from rfl) (by omega) (by decide) ?_
  refine j_top C _ (hB.2.2.1 _ (by omega)) ?_
  refine j_aload_n C dX5_seen_17 rfl ?_
  refine j_getf C dX5_seen_18 rfl (by decide) (T := TX5) rfl in_X5_seen_X5 (k := 0) (by decide) fl_X5_seen_12 rfl rfl ?_
  refine j_getfN C dX5_seen_21 (cell_B (b := 0) (by decide)) (by decide) (T := TX0) rfl in_X5_seen_X0 (k := 0) (by decide) nl_X5_49 rfl rfl ?_
  refine j_iload_n C dX5_seen_24 rfl ?_
  refine j_ialdN C dX5_seen_25 (show ilen 1 = some 8 from rfl) (by omega) (by decide) ?_
  refine j_top C _ (hB.1 _ (by omega)) ?_
  refine j_callS C (ct_seenAs (by omega) (by omega) (by omega) (by omega)) dX5_seen_26 gX5_seen_X1_seenAs rfl ks_X1_seenAs rfl rfl (Nat.le_of_ble_eq_true rfl) ⟨by decide, by decide⟩ ⟨Nat.zero_le _, Nat.zero_le _⟩ (k_I ?_)
  exact j_ireturn C hret dX5_seen_29 ⟨rfl, rfl⟩

set_option maxHeartbeats 4000000 in
set_option maxRecDepth 100000 in
theorem ct_painterOf_0 {l : Launch} {G : GG} {M : MM} {S : SS} (hX : Xc M S) (hO : OkS S) {p : Nat} (hp : p < 4) : Ct l G yX5_painterOf wsX5_painterOf 6 ([.ref (G.2.2 72), .int (nI p), .int (nI 0)] : List Value) M (rI (ofN S.1 p 0) M) := by
  have hB := hX.1
  have hW := hO.1
  obtain ⟨hk, hs, hl⟩ := hW.2.1 p hp
  refine Ct.of (cc := cX5_painterOf) (maxL := 3) (ret := (some .int)) (lv := [(0, .ref (G.2.2 72)), (1, .int (nI p)), (2, .int (nI 0))]) (by decide) rfl rfl (Nat.le_of_ble_eq_true rfl) ?_
  intro pg ev sg mm bl mt cd AZ C hret
  refine j_iload_n C dX5_painterOf_0 rfl ?_
  refine j_callS C (ct_needPainter (by omega)) dX5_painterOf_1 gX5_painterOf_X5_needPainter rfl ks_X5_needPainter rfl rfl (Nat.le_of_ble_eq_true rfl) ⟨by decide, by decide⟩ ⟨Nat.zero_le _, Nat.zero_le _⟩ (k_V ?_)
  refine j_iload_n C dX5_painterOf_4 rfl ?_
  refine j_tableIn C dX5_painterOf_5 (off := 43) (tgt := 48) (by decide) (by decide) (by decide) (by decide) ?_
  refine j_aload_n C dX5_painterOf_48 rfl ?_
  refine j_getf C dX5_painterOf_49 rfl (by decide) (T := TX5) rfl in_X5_painterOf_X5 (k := 0) (by decide) fl_X5_painterOf_12 rfl rfl ?_
  refine j_getfN C dX5_painterOf_52 (cell_B (b := 0) (by decide)) (by decide) (T := TX0) rfl in_X5_painterOf_X0 (k := 2) (by decide) nl_X5_66 rfl rfl ?_
  refine j_iload_n C dX5_painterOf_55 rfl ?_
  refine j_ialdN C dX5_painterOf_56 (show ilen 3 = some 4 from rfl) (by omega) (by decide) ?_
  refine j_top C _ (hB.2.2.1 _ (by omega)) ?_
  exact j_ireturn C hret dX5_painterOf_57 ⟨rfl, rfl⟩

set_option maxHeartbeats 4000000 in
set_option maxRecDepth 100000 in
theorem ct_painterOf_1 {l : Launch} {G : GG} {M : MM} {S : SS} (hX : Xc M S) (hO : OkS S) {p : Nat} (hp : p < 4) : Ct l G yX5_painterOf wsX5_painterOf 6 ([.ref (G.2.2 72), .int (nI p), .int (nI 1)] : List Value) M (rI (ofN S.1 p 1) M) := by
  have hB := hX.1
  have hW := hO.1
  obtain ⟨hk, hs, hl⟩ := hW.2.1 p hp
  refine Ct.of (cc := cX5_painterOf) (maxL := 3) (ret := (some .int)) (lv := [(0, .ref (G.2.2 72)), (1, .int (nI p)), (2, .int (nI 1))]) (by decide) rfl rfl (Nat.le_of_ble_eq_true rfl) ?_
  intro pg ev sg mm bl mt cd AZ C hret
  refine j_iload_n C dX5_painterOf_0 rfl ?_
  refine j_callS C (ct_needPainter (by omega)) dX5_painterOf_1 gX5_painterOf_X5_needPainter rfl ks_X5_needPainter rfl rfl (Nat.le_of_ble_eq_true rfl) ⟨by decide, by decide⟩ ⟨Nat.zero_le _, Nat.zero_le _⟩ (k_V ?_)
  refine j_iload_n C dX5_painterOf_4 rfl ?_
  refine j_tableIn C dX5_painterOf_5 (off := 53) (tgt := 58) (by decide) (by decide) (by decide) (by decide) ?_
  refine j_aload_n C dX5_painterOf_58 rfl ?_
  refine j_getf C dX5_painterOf_59 rfl (by decide) (T := TX5) rfl in_X5_painterOf_X5 (k := 0) (by decide) fl_X5_painterOf_12 rfl rfl ?_
  refine j_getfN C dX5_painterOf_62 (cell_B (b := 0) (by decide)) (by decide) (T := TX0) rfl in_X5_painterOf_X0 (k := 3) (by decide) nl_X5_69 rfl rfl ?_
  refine j_iload_n C dX5_painterOf_65 rfl ?_
  refine j_ialdN C dX5_painterOf_66 (show ilen 4 = some 4 from rfl) (by omega) (by decide) ?_
  refine j_top C _ (hB.2.2.2.1 _ (by omega)) ?_
  exact j_ireturn C hret dX5_painterOf_67 ⟨rfl, rfl⟩

set_option maxHeartbeats 4000000 in
set_option maxRecDepth 100000 in
theorem ct_painterOf_2 {l : Launch} {G : GG} {M : MM} {S : SS} (hX : Xc M S) (hO : OkS S) {p : Nat} (hp : p < 4) : Ct l G yX5_painterOf wsX5_painterOf 6 ([.ref (G.2.2 72), .int (nI p), .int (nI 2)] : List Value) M (rI (ofN S.1 p 2) M) := by
  have hB := hX.1
  have hW := hO.1
  obtain ⟨hk, hs, hl⟩ := hW.2.1 p hp
  refine Ct.of (cc := cX5_painterOf) (maxL := 3) (ret := (some .int)) (lv := [(0, .ref (G.2.2 72)), (1, .int (nI p)), (2, .int (nI 2))]) (by decide) rfl rfl (Nat.le_of_ble_eq_true rfl) ?_
  intro pg ev sg mm bl mt cd AZ C hret
  refine j_iload_n C dX5_painterOf_0 rfl ?_
  refine j_callS C (ct_needPainter (by omega)) dX5_painterOf_1 gX5_painterOf_X5_needPainter rfl ks_X5_needPainter rfl rfl (Nat.le_of_ble_eq_true rfl) ⟨by decide, by decide⟩ ⟨Nat.zero_le _, Nat.zero_le _⟩ (k_V ?_)
  refine j_iload_n C dX5_painterOf_4 rfl ?_
  refine j_tableIn C dX5_painterOf_5 (off := 63) (tgt := 68) (by decide) (by decide) (by decide) (by decide) ?_
  refine j_aload_n C dX5_painterOf_68 rfl ?_
  refine j_getf C dX5_painterOf_69 rfl (by decide) (T := TX5) rfl in_X5_painterOf_X5 (k := 0) (by decide) fl_X5_painterOf_12 rfl rfl ?_
  refine j_getfN C dX5_painterOf_72 (cell_B (b := 0) (by decide)) (by decide) (T := TX0) rfl in_X5_painterOf_X0 (k := 4) (by decide) nl_X5_72 rfl rfl ?_
  refine j_iload_n C dX5_painterOf_75 rfl ?_
  refine j_ialdN C dX5_painterOf_76 (show ilen 5 = some 4 from rfl) (by omega) (by decide) ?_
  refine j_top C _ (hB.2.2.2.2.1 _ (by omega)) ?_
  exact j_ireturn C hret dX5_painterOf_77 ⟨rfl, rfl⟩

set_option maxHeartbeats 4000000 in
set_option maxRecDepth 100000 in
theorem ct_painterOf_3 {l : Launch} {G : GG} {M : MM} {S : SS} (hX : Xc M S) (hO : OkS S) {p : Nat} (hp : p < 4) : Ct l G yX5_painterOf wsX5_painterOf 6 ([.ref (G.2.2 72), .int (nI p), .int (nI 3)] : List Value) M (rI (ofN S.1 p 3) M) := by
  have hB := hX.1
  have hW := hO.1
  obtain ⟨hk, hs, hl⟩ := hW.2.1 p hp
  refine Ct.of (cc := cX5_painterOf) (maxL := 3) (ret := (some .int)) (lv := [(0, .ref (G.2.2 72)), (1, .int (nI p)), (2, .int (nI 3))]) (by decide) rfl rfl (Nat.le_of_ble_eq_true rfl) ?_
  intro pg ev sg mm bl mt cd AZ C hret
  refine j_iload_n C dX5_painterOf_0 rfl ?_
  refine j_callS C (ct_needPainter (by omega)) dX5_painterOf_1 gX5_painterOf_X5_needPainter rfl ks_X5_needPainter rfl rfl (Nat.le_of_ble_eq_true rfl) ⟨by decide, by decide⟩ ⟨Nat.zero_le _, Nat.zero_le _⟩ (k_V ?_)
  refine j_iload_n C dX5_painterOf_4 rfl ?_
  refine j_tableIn C dX5_painterOf_5 (off := 73) (tgt := 78) (by decide) (by decide) (by decide) (by decide) ?_
  refine j_aload_n C dX5_painterOf_78 rfl ?_
  refine j_getf C dX5_painterOf_79 rfl (by decide) (T := TX5) rfl in_X5_painterOf_X5 (k := 0) (by decide) fl_X5_painterOf_12 rfl rfl ?_
  refine j_iload_n C dX5_painterOf_82 rfl ?_
  refine j_aload_n C dX5_painterOf_83 rfl ?_
  refine j_getf C dX5_painterOf_84 rfl (by decide) (T := TX5) rfl in_X5_painterOf_X5 (k := 0) (by decide) fl_X5_painterOf_12 rfl rfl ?_
  refine j_getfN C dX5_painterOf_87 (cell_B (b := 0) (by decide)) (by decide) (T := TX0) rfl in_X5_painterOf_X0 (k := 4) (by decide) nl_X5_72 rfl rfl ?_
  refine j_iload_n C dX5_painterOf_90 rfl ?_
  refine j_ialdN C dX5_painterOf_91 (show ilen 5 = some 4 from rfl) (by omega) (by decide) ?_
  refine j_top C _ (hB.2.2.2.2.1 _ (by omega)) ?_
  refine j_callV C (ct_pairsTold (b := 0) (by decide) hB hW (by omega) (by omega)) dX5_painterOf_92 (cell_B (b := 0) (by decide)) (by decide) (T := TX0) rfl gX5_painterOf_X0_pairsTold rfl kd_X0_pairsTold rfl rfl (Nat.le_of_ble_eq_true rfl) ⟨by decide, by decide⟩ ⟨Nat.zero_le _, Nat.zero_le _⟩ (k_I ?_)
  exact j_ireturn C hret dX5_painterOf_95 ⟨rfl, rfl⟩

set_option maxHeartbeats 4000000 in
set_option maxRecDepth 100000 in
theorem ct_painterOf_4 {l : Launch} {G : GG} {M : MM} {S : SS} (hX : Xc M S) (hO : OkS S) {p : Nat} (hp : p < 4) : Ct l G yX5_painterOf wsX5_painterOf 6 ([.ref (G.2.2 72), .int (nI p), .int (nI 4)] : List Value) M (rI (ofN S.1 p 4) M) := by
  have hB := hX.1
  have hW := hO.1
  obtain ⟨hk, hs, hl⟩ := hW.2.1 p hp
  refine Ct.of (cc := cX5_painterOf) (maxL := 3) (ret := (some .int)) (lv := [(0, .ref (G.2.2 72)), (1, .int (nI p)), (2, .int (nI 4))]) (by decide) rfl rfl (Nat.le_of_ble_eq_true rfl) ?_
  intro pg ev sg mm bl mt cd AZ C hret
  refine j_iload_n C dX5_painterOf_0 rfl ?_
  refine j_callS C (ct_needPainter (by omega)) dX5_painterOf_1 gX5_painterOf_X5_needPainter rfl ks_X5_needPainter rfl rfl (Nat.le_of_ble_eq_true rfl) ⟨by decide, by decide⟩ ⟨Nat.zero_le _, Nat.zero_le _⟩ (k_V ?_)
  refine j_iload_n C dX5_painterOf_4 rfl ?_
  refine j_tableIn C dX5_painterOf_5 (off := 91) (tgt := 96) (by decide) (by decide) (by decide) (by decide) ?_
  refine j_aload_n C dX5_painterOf_96 rfl ?_
  refine j_getf C dX5_painterOf_97 rfl (by decide) (T := TX5) rfl in_X5_painterOf_X5 (k := 0) (by decide) fl_X5_painterOf_12 rfl rfl ?_
  refine j_iload_n C dX5_painterOf_100 rfl ?_
  refine j_callV C (ct_wrongPairs (b := 0) (by decide) hB hW (by omega)) dX5_painterOf_101 (cell_B (b := 0) (by decide)) (by decide) (T := TX0) rfl gX5_painterOf_X0_wrongPairs rfl kd_X0_wrongPairs rfl rfl (Nat.le_of_ble_eq_true rfl) ⟨by decide, by decide⟩ ⟨Nat.zero_le _, Nat.zero_le _⟩ (k_I ?_)
  exact j_ireturn C hret dX5_painterOf_104 ⟨rfl, rfl⟩

set_option maxHeartbeats 4000000 in
set_option maxRecDepth 100000 in
theorem ct_painterOf_5 {l : Launch} {G : GG} {M : MM} {S : SS} (hX : Xc M S) (hO : OkS S) {p : Nat} (hp : p < 4) : Ct l G yX5_painterOf wsX5_painterOf 6 ([.ref (G.2.2 72), .int (nI p), .int (nI 5)] : List Value) M (rI (ofN S.1 p 5) M) := by
  have hB := hX.1
  have hW := hO.1
  obtain ⟨hk, hs, hl⟩ := hW.2.1 p hp
  refine Ct.of (cc := cX5_painterOf) (maxL := 3) (ret := (some .int)) (lv := [(0, .ref (G.2.2 72)), (1, .int (nI p)), (2, .int (nI 5))]) (by decide) rfl rfl (Nat.le_of_ble_eq_true rfl) ?_
  intro pg ev sg mm bl mt cd AZ C hret
  refine j_iload_n C dX5_painterOf_0 rfl ?_
  refine j_callS C (ct_needPainter (by omega)) dX5_painterOf_1 gX5_painterOf_X5_needPainter rfl ks_X5_needPainter rfl rfl (Nat.le_of_ble_eq_true rfl) ⟨by decide, by decide⟩ ⟨Nat.zero_le _, Nat.zero_le _⟩ (k_V ?_)
  refine j_iload_n C dX5_painterOf_4 rfl ?_
  refine j_tableIn C dX5_painterOf_5 (off := 100) (tgt := 105) (by decide) (by decide) (by decide) (by decide) ?_
  refine j_aload_n C dX5_painterOf_105 rfl ?_
  refine j_getf C dX5_painterOf_106 rfl (by decide) (T := TX5) rfl in_X5_painterOf_X5 (k := 0) (by decide) fl_X5_painterOf_12 rfl rfl ?_
  refine j_iload_n C dX5_painterOf_109 rfl ?_
  refine j_callV C (ct_wrongPairs (b := 0) (by decide) hB hW (by omega)) dX5_painterOf_110 (cell_B (b := 0) (by decide)) (by decide) (T := TX0) rfl gX5_painterOf_X0_wrongPairs rfl kd_X0_wrongPairs rfl rfl (Nat.le_of_ble_eq_true rfl) ⟨by decide, by decide⟩ ⟨Nat.zero_le _, Nat.zero_le _⟩ (k_I ?_)
  refine j_if_neN C dX5_painterOf_113 (tgt := 120) (by decide) (Nat.lt_of_le_of_lt (cntN_le _ 64) (by decide)) (fun cq113 => ?_) (fun cq113 => ?_)
  · refine j_iconst C dX5_painterOf_120 (v := nI 0) (by decide) ?_
    refine j_top C (bI (decide (wrg S.1 p = 0))) (by rw [decide_eq_false cq113]; rfl) ?_
    exact j_ireturn C hret dX5_painterOf_121 ⟨rfl, rfl⟩
  · refine j_iconst C dX5_painterOf_116 (v := nI 1) (by decide) ?_
    refine j_top C (bI (decide (wrg S.1 p = 0))) (by rw [decide_eq_true cq113]; rfl) ?_
    refine j_goto C dX5_painterOf_117 (tgt := 121) (by decide) ?_
    exact j_ireturn C hret dX5_painterOf_121 ⟨rfl, rfl⟩

set_option maxHeartbeats 4000000 in
set_option maxRecDepth 100000 in
theorem ct_painterOf_6 {l : Launch} {G : GG} {M : MM} {S : SS} (hX : Xc M S) (hO : OkS S) {p : Nat} (hp : p < 4) : Ct l G yX5_painterOf wsX5_painterOf 6 ([.ref (G.2.2 72), .int (nI p), .int (nI 6)] : List Value) M (rI (ofN S.1 p 6) M) := by
  have hB := hX.1
  have hW := hO.1
  obtain ⟨hk, hs, hl⟩ := hW.2.1 p hp
  refine Ct.of (cc := cX5_painterOf) (maxL := 3) (ret := (some .int)) (lv := [(0, .ref (G.2.2 72)), (1, .int (nI p)), (2, .int (nI 6))]) (by decide) rfl rfl (Nat.le_of_ble_eq_true rfl) ?_
  intro pg ev sg mm bl mt cd AZ C hret
  refine j_iload_n C dX5_painterOf_0 rfl ?_
  refine j_callS C (ct_needPainter (by omega)) dX5_painterOf_1 gX5_painterOf_X5_needPainter rfl ks_X5_needPainter rfl rfl (Nat.le_of_ble_eq_true rfl) ⟨by decide, by decide⟩ ⟨Nat.zero_le _, Nat.zero_le _⟩ (k_V ?_)
  refine j_iload_n C dX5_painterOf_4 rfl ?_
  refine j_tableIn C dX5_painterOf_5 (off := 117) (tgt := 122) (by decide) (by decide) (by decide) (by decide) ?_
  refine j_aload_n C dX5_painterOf_122 rfl ?_
  refine j_getf C dX5_painterOf_123 rfl (by decide) (T := TX5) rfl in_X5_painterOf_X5 (k := 0) (by decide) fl_X5_painterOf_12 rfl rfl ?_
  refine j_iload_n C dX5_painterOf_126 rfl ?_
  refine j_callV C (ct_chartsRead (b := 0) (by decide) hB hW (by omega)) dX5_painterOf_127 (cell_B (b := 0) (by decide)) (by decide) (T := TX0) rfl gX5_painterOf_X0_chartsRead rfl kd_X0_chartsRead rfl rfl (Nat.le_of_ble_eq_true rfl) ⟨by decide, by decide⟩ ⟨Nat.zero_le _, Nat.zero_le _⟩ (k_I ?_)
  exact j_ireturn C hret dX5_painterOf_130 ⟨rfl, rfl⟩

theorem ct_painterOf {l : Launch} {G : GG} {M : MM} {S : SS} (hX : Xc M S) (hO : OkS S) {p k : Nat} (hp : p < 4) (hk : k ≤ 6) : Ct l G yX5_painterOf wsX5_painterOf 6 [.ref (G.2.2 72), .int (nI p), .int (nI k)] M (rI (ofN S.1 p k) M) := by
  rcases (show k = 0 ∨ k = 1 ∨ k = 2 ∨ k = 3 ∨ k = 4 ∨ k = 5 ∨ k = 6 by omega) with rfl | rfl | rfl | rfl | rfl | rfl | rfl
  · exact ct_painterOf_0 hX hO hp
  · exact ct_painterOf_1 hX hO hp
  · exact ct_painterOf_2 hX hO hp
  · exact ct_painterOf_3 hX hO hp
  · exact ct_painterOf_4 hX hO hp
  · exact ct_painterOf_5 hX hO hp
  · exact ct_painterOf_6 hX hO hp

set_option maxHeartbeats 4000000 in
set_option maxRecDepth 100000 in
theorem ct_apart {l : Launch} {G : GG} {M : MM} {S : SS} (hX : Xc M S) (hO : OkS S) {p i j : Nat} (hp : p < 4) (hi : i < 8) (hj : j < 8) : Ct l G yX5_apart wsX5_apart 5 ([.ref (G.2.2 72), .int (nI p), .int (nI i), .int (nI j)] : List Value) M (rI (bI (ap S.1 p i j)) M) := by
  have hB := hX.1
  have hW := hO.1
  refine Ct.of (cc := cX5_apart) (maxL := 4) (ret := (some .int)) (lv := [(0, .ref (G.2.2 72)), (1, .int (nI p)), (2, .int (nI i)), (3, .int (nI j))]) (by decide) rfl rfl (Nat.le_of_ble_eq_true rfl) ?_
  intro pg ev sg mm bl mt cd AZ C hret
  refine j_iload_n C dX5_apart_0 rfl ?_
  refine j_callS C (ct_needPainter (by omega)) dX5_apart_1 gX5_apart_X5_needPainter rfl ks_X5_needPainter rfl rfl (Nat.le_of_ble_eq_true rfl) ⟨by decide, by decide⟩ ⟨Nat.zero_le _, Nat.zero_le _⟩ (k_V ?_)
  refine j_iload_n C dX5_apart_4 rfl ?_
  refine j_callS C (ct_needPot (by omega)) dX5_apart_5 gX5_apart_X5_needPot rfl ks_X5_needPot rfl rfl (Nat.le_of_ble_eq_true rfl) ⟨by decide, by decide⟩ ⟨Nat.zero_le _, Nat.zero_le _⟩ (k_V ?_)
  refine j_iload_n C dX5_apart_8 rfl ?_
  refine j_callS C (ct_needPot (by omega)) dX5_apart_9 gX5_apart_X5_needPot rfl ks_X5_needPot rfl rfl (Nat.le_of_ble_eq_true rfl) ⟨by decide, by decide⟩ ⟨Nat.zero_le _, Nat.zero_le _⟩ (k_V ?_)
  refine j_aload_n C dX5_apart_12 rfl ?_
  refine j_getf C dX5_apart_13 rfl (by decide) (T := TX5) rfl in_X5_apart_X5 (k := 0) (by decide) fl_X5_apart_12 rfl rfl ?_
  refine j_iload_n C dX5_apart_16 rfl ?_
  refine j_iload_n C dX5_apart_17 rfl ?_
  refine j_iload_n C dX5_apart_18 rfl ?_
  refine j_callV C (ct_tells (b := 0) (by decide) hB hW (by omega) (by omega) (by omega)) dX5_apart_19 (cell_B (b := 0) (by decide)) (by decide) (T := TX0) rfl gX5_apart_X0_tells rfl kd_X0_tells rfl rfl (Nat.le_of_ble_eq_true rfl) ⟨by decide, by decide⟩ ⟨Nat.zero_le _, Nat.zero_le _⟩ (k_I ?_)
  refine j_if_eqB C dX5_apart_22 (tgt := 29) (by decide) (fun cq22 => ?_) (fun cq22 => ?_)
  · refine j_iconst C dX5_apart_29 (v := nI 0) (by decide) ?_
    refine j_top C (bI (ap S.1 p i j)) (by rw [cq22]; rfl) ?_
    exact j_ireturn C hret dX5_apart_30 ⟨rfl, rfl⟩
  · refine j_iconst C dX5_apart_25 (v := nI 1) (by decide) ?_
    refine j_top C (bI (ap S.1 p i j)) (by rw [cq22]; rfl) ?_
    refine j_goto C dX5_apart_26 (tgt := 30) (by decide) ?_
    exact j_ireturn C hret dX5_apart_30 ⟨rfl, rfl⟩

set_option maxHeartbeats 4000000 in
set_option maxRecDepth 100000 in
theorem ct_chartOf_0 {l : Launch} {G : GG} {M : MM} {S : SS} (hX : Xc M S) (hO : OkS S) {ch : Nat} (hc : ch < S.1 44) : Ct l G yX5_chartOf wsX5_chartOf 6 ([.ref (G.2.2 72), .int (nI ch), .int (nI 0)] : List Value) M (rI (ofC S.1 ch 0) M) := by
  have hB := hX.1
  have hW := hO.1
  have h44 := hW.2.2.1
  refine Ct.of (cc := cX5_chartOf) (maxL := 3) (ret := (some .int)) (lv := [(0, .ref (G.2.2 72)), (1, .int (nI ch)), (2, .int (nI 0))]) (by decide) rfl rfl (Nat.le_of_ble_eq_true rfl) ?_
  intro pg ev sg mm bl mt cd AZ C hret
  refine j_aload_n C dX5_chartOf_0 rfl ?_
  refine j_iload_n C dX5_chartOf_1 rfl ?_
  refine j_callV C (ct_needChart hX (by omega) (by omega)) dX5_chartOf_2 rfl (by decide) (T := TX5) rfl gX5_chartOf_X5_needChart rfl kd_X5_needChart rfl rfl (Nat.le_of_ble_eq_true rfl) ⟨by decide, by decide⟩ ⟨Nat.zero_le _, Nat.zero_le _⟩ (k_V ?_)
  refine j_iload_n C dX5_chartOf_5 rfl ?_
  refine j_tableIn C dX5_chartOf_6 (off := 26) (tgt := 32) (by decide) (by decide) (by decide) (by decide) ?_
  refine j_aload_n C dX5_chartOf_32 rfl ?_
  refine j_getf C dX5_chartOf_33 rfl (by decide) (T := TX5) rfl in_X5_chartOf_X5 (k := 0) (by decide) fl_X5_chartOf_12 rfl rfl ?_
  refine j_getfN C dX5_chartOf_36 (cell_B (b := 0) (by decide)) (by decide) (T := TX0) rfl in_X5_chartOf_X0 (k := 5) (by decide) nl_X5_190 rfl rfl ?_
  refine j_iload_n C dX5_chartOf_39 rfl ?_
  refine j_ialdN C dX5_chartOf_40 (show ilen 6 = some 6 from rfl) (by omega) (by decide) ?_
  refine j_top C _ (hB.2.2.2.2.2.1 _ (by omega)) ?_
  exact j_ireturn C hret dX5_chartOf_41 ⟨rfl, rfl⟩

set_option maxHeartbeats 4000000 in
set_option maxRecDepth 100000 in
theorem ct_chartOf_1 {l : Launch} {G : GG} {M : MM} {S : SS} (hX : Xc M S) (hO : OkS S) {ch : Nat} (hc : ch < S.1 44) : Ct l G yX5_chartOf wsX5_chartOf 6 ([.ref (G.2.2 72), .int (nI ch), .int (nI 1)] : List Value) M (rI (ofC S.1 ch 1) M) := by
  have hB := hX.1
  have hW := hO.1
  have h44 := hW.2.2.1
  refine Ct.of (cc := cX5_chartOf) (maxL := 3) (ret := (some .int)) (lv := [(0, .ref (G.2.2 72)), (1, .int (nI ch)), (2, .int (nI 1))]) (by decide) rfl rfl (Nat.le_of_ble_eq_true rfl) ?_
  intro pg ev sg mm bl mt cd AZ C hret
  refine j_aload_n C dX5_chartOf_0 rfl ?_
  refine j_iload_n C dX5_chartOf_1 rfl ?_
  refine j_callV C (ct_needChart hX (by omega) (by omega)) dX5_chartOf_2 rfl (by decide) (T := TX5) rfl gX5_chartOf_X5_needChart rfl kd_X5_needChart rfl rfl (Nat.le_of_ble_eq_true rfl) ⟨by decide, by decide⟩ ⟨Nat.zero_le _, Nat.zero_le _⟩ (k_V ?_)
  refine j_iload_n C dX5_chartOf_5 rfl ?_
  refine j_tableIn C dX5_chartOf_6 (off := 36) (tgt := 42) (by decide) (by decide) (by decide) (by decide) ?_
  refine j_aload_n C dX5_chartOf_42 rfl ?_
  refine j_getf C dX5_chartOf_43 rfl (by decide) (T := TX5) rfl in_X5_chartOf_X5 (k := 0) (by decide) fl_X5_chartOf_12 rfl rfl ?_
  refine j_getfN C dX5_chartOf_46 (cell_B (b := 0) (by decide)) (by decide) (T := TX0) rfl in_X5_chartOf_X0 (k := 6) (by decide) nl_X5_193 rfl rfl ?_
  refine j_iload_n C dX5_chartOf_49 rfl ?_
  refine j_ialdN C dX5_chartOf_50 (show ilen 7 = some 6 from rfl) (by omega) (by decide) ?_
  refine j_top C _ (hB.2.2.2.2.2.2.1 _ (by omega)) ?_
  exact j_ireturn C hret dX5_chartOf_51 ⟨rfl, rfl⟩

set_option maxHeartbeats 4000000 in
set_option maxRecDepth 100000 in
theorem ct_chartOf_2 {l : Launch} {G : GG} {M : MM} {S : SS} (hX : Xc M S) (hO : OkS S) {ch : Nat} (hc : ch < S.1 44) : Ct l G yX5_chartOf wsX5_chartOf 6 ([.ref (G.2.2 72), .int (nI ch), .int (nI 2)] : List Value) M (rI (ofC S.1 ch 2) M) := by
  have hB := hX.1
  have hW := hO.1
  have h44 := hW.2.2.1
  refine Ct.of (cc := cX5_chartOf) (maxL := 3) (ret := (some .int)) (lv := [(0, .ref (G.2.2 72)), (1, .int (nI ch)), (2, .int (nI 2))]) (by decide) rfl rfl (Nat.le_of_ble_eq_true rfl) ?_
  intro pg ev sg mm bl mt cd AZ C hret
  refine j_aload_n C dX5_chartOf_0 rfl ?_
  refine j_iload_n C dX5_chartOf_1 rfl ?_
  refine j_callV C (ct_needChart hX (by omega) (by omega)) dX5_chartOf_2 rfl (by decide) (T := TX5) rfl gX5_chartOf_X5_needChart rfl kd_X5_needChart rfl rfl (Nat.le_of_ble_eq_true rfl) ⟨by decide, by decide⟩ ⟨Nat.zero_le _, Nat.zero_le _⟩ (k_V ?_)
  refine j_iload_n C dX5_chartOf_5 rfl ?_
  refine j_tableIn C dX5_chartOf_6 (off := 46) (tgt := 52) (by decide) (by decide) (by decide) (by decide) ?_
  refine j_aload_n C dX5_chartOf_52 rfl ?_
  refine j_getf C dX5_chartOf_53 rfl (by decide) (T := TX5) rfl in_X5_chartOf_X5 (k := 0) (by decide) fl_X5_chartOf_12 rfl rfl ?_
  refine j_iload_n C dX5_chartOf_56 rfl ?_
  refine j_callV C (ct_readersOf (b := 0) (by decide) hB hW (by omega)) dX5_chartOf_57 (cell_B (b := 0) (by decide)) (by decide) (T := TX0) rfl gX5_chartOf_X0_readersOf rfl kd_X0_readersOf rfl rfl (Nat.le_of_ble_eq_true rfl) ⟨by decide, by decide⟩ ⟨Nat.zero_le _, Nat.zero_le _⟩ (k_I ?_)
  exact j_ireturn C hret dX5_chartOf_60 ⟨rfl, rfl⟩

theorem ct_chartOf {l : Launch} {G : GG} {M : MM} {S : SS} (hX : Xc M S) (hO : OkS S) {ch k : Nat} (hc : ch < S.1 44) (hk : k ≤ 2) : Ct l G yX5_chartOf wsX5_chartOf 6 [.ref (G.2.2 72), .int (nI ch), .int (nI k)] M (rI (ofC S.1 ch k) M) := by
  rcases (show k = 0 ∨ k = 1 ∨ k = 2 by omega) with rfl | rfl | rfl
  · exact ct_chartOf_0 hX hO hc
  · exact ct_chartOf_1 hX hO hc
  · exact ct_chartOf_2 hX hO hc

set_option maxHeartbeats 4000000 in
set_option maxRecDepth 100000 in
theorem ct_count_0 {l : Launch} {G : GG} {M : MM} {S : SS} (hX : Xc M S) (hO : OkS S)  : Ct l G yX5_count wsX5_count 7 ([.ref (G.2.2 72), .int (nI 0)] : List Value) M (rI (cnt8 S 0) M) := by
  have hB := hX.1
  have hW := hO.1
  refine Ct.of (cc := cX5_count) (maxL := 2) (ret := (some .int)) (lv := [(0, .ref (G.2.2 72)), (1, .int (nI 0))]) (by decide) rfl rfl (Nat.le_of_ble_eq_true rfl) ?_
  intro pg ev sg mm bl mt cd AZ C hret
  refine j_iload_n C dX5_count_0 rfl ?_
  refine j_tableIn C dX5_count_1 (off := 47) (tgt := 48) (by decide) (by decide) (by decide) (by decide) ?_
  refine j_aload_n C dX5_count_48 rfl ?_
  refine j_getf C dX5_count_49 rfl (by decide) (T := TX5) rfl in_X5_count_X5 (k := 0) (by decide) fl_X5_count_12 rfl rfl ?_
  refine j_callV C (ct_labelled (b := 0) (by decide) hB hW) dX5_count_52 (cell_B (b := 0) (by decide)) (by decide) (T := TX0) rfl gX5_count_X0_labelled rfl kd_X0_labelled rfl rfl (Nat.le_of_ble_eq_true rfl) ⟨by decide, by decide⟩ ⟨Nat.zero_le _, Nat.zero_le _⟩ (k_I ?_)
  exact j_ireturn C hret dX5_count_55 ⟨rfl, rfl⟩

set_option maxHeartbeats 4000000 in
set_option maxRecDepth 100000 in
theorem ct_count_1 {l : Launch} {G : GG} {M : MM} {S : SS} (hX : Xc M S) (hO : OkS S)  : Ct l G yX5_count wsX5_count 7 ([.ref (G.2.2 72), .int (nI 1)] : List Value) M (rI (cnt8 S 1) M) := by
  have hB := hX.1
  have hW := hO.1
  refine Ct.of (cc := cX5_count) (maxL := 2) (ret := (some .int)) (lv := [(0, .ref (G.2.2 72)), (1, .int (nI 1))]) (by decide) rfl rfl (Nat.le_of_ble_eq_true rfl) ?_
  intro pg ev sg mm bl mt cd AZ C hret
  refine j_iload_n C dX5_count_0 rfl ?_
  refine j_tableIn C dX5_count_1 (off := 55) (tgt := 56) (by decide) (by decide) (by decide) (by decide) ?_
  refine j_aload_n C dX5_count_56 rfl ?_
  refine j_getf C dX5_count_57 rfl (by decide) (T := TX5) rfl in_X5_count_X5 (k := 0) (by decide) fl_X5_count_12 rfl rfl ?_
  refine j_callV C (ct_unlikeLabels (b := 0) (by decide) hB hW) dX5_count_60 (cell_B (b := 0) (by decide)) (by decide) (T := TX0) rfl gX5_count_X0_unlikeLabels rfl kd_X0_unlikeLabels rfl rfl (Nat.le_of_ble_eq_true rfl) ⟨by decide, by decide⟩ ⟨Nat.zero_le _, Nat.zero_le _⟩ (k_I ?_)
  exact j_ireturn C hret dX5_count_63 ⟨rfl, rfl⟩

set_option maxHeartbeats 4000000 in
set_option maxRecDepth 100000 in
theorem ct_count_2 {l : Launch} {G : GG} {M : MM} {S : SS} (hX : Xc M S) (hO : OkS S)  : Ct l G yX5_count wsX5_count 7 ([.ref (G.2.2 72), .int (nI 2)] : List Value) M (rI (cnt8 S 2) M) := by
  have hB := hX.1
  have hW := hO.1
  refine Ct.of (cc := cX5_count) (maxL := 2) (ret := (some .int)) (lv := [(0, .ref (G.2.2 72)), (1, .int (nI 2))]) (by decide) rfl rfl (Nat.le_of_ble_eq_true rfl) ?_
  intro pg ev sg mm bl mt cd AZ C hret
  refine j_iload_n C dX5_count_0 rfl ?_
  refine j_tableIn C dX5_count_1 (off := 63) (tgt := 64) (by decide) (by decide) (by decide) (by decide) ?_
  refine j_aload_n C dX5_count_64 rfl ?_
  refine j_getf C dX5_count_65 rfl (by decide) (T := TX5) rfl in_X5_count_X5 (k := 0) (by decide) fl_X5_count_12 rfl rfl ?_
  refine j_getfN C dX5_count_68 (cell_B (b := 0) (by decide)) (by decide) (T := TX0) rfl in_X5_count_X0 (k := 7) (by decide) nl_X5_198 rfl rfl ?_
  refine j_top C (_) hB.2.2.2.2.2.2.2.1 ?_
  exact j_ireturn C hret dX5_count_71 ⟨rfl, rfl⟩

set_option maxHeartbeats 4000000 in
set_option maxRecDepth 100000 in
theorem ct_count_3 {l : Launch} {G : GG} {M : MM} {S : SS} (hX : Xc M S) (hO : OkS S)  : Ct l G yX5_count wsX5_count 7 ([.ref (G.2.2 72), .int (nI 3)] : List Value) M (rI (cnt8 S 3) M) := by
  have hB := hX.1
  have hW := hO.1
  refine Ct.of (cc := cX5_count) (maxL := 2) (ret := (some .int)) (lv := [(0, .ref (G.2.2 72)), (1, .int (nI 3))]) (by decide) rfl rfl (Nat.le_of_ble_eq_true rfl) ?_
  intro pg ev sg mm bl mt cd AZ C hret
  refine j_iload_n C dX5_count_0 rfl ?_
  refine j_tableIn C dX5_count_1 (off := 71) (tgt := 72) (by decide) (by decide) (by decide) (by decide) ?_
  refine j_aload_n C dX5_count_72 rfl ?_
  refine j_getf C dX5_count_73 rfl (by decide) (T := TX5) rfl in_X5_count_X5 (k := 0) (by decide) fl_X5_count_12 rfl rfl ?_
  refine j_callV C (ct_pairsToldByNobody (b := 0) (by decide) hB hW) dX5_count_76 (cell_B (b := 0) (by decide)) (by decide) (T := TX0) rfl gX5_count_X0_pairsToldByNobody rfl kd_X0_pairsToldByNobody rfl rfl (Nat.le_of_ble_eq_true rfl) ⟨by decide, by decide⟩ ⟨Nat.zero_le _, Nat.zero_le _⟩ (k_I ?_)
  exact j_ireturn C hret dX5_count_79 ⟨rfl, rfl⟩

set_option maxHeartbeats 4000000 in
set_option maxRecDepth 100000 in
theorem ct_count_4 {l : Launch} {G : GG} {M : MM} {S : SS} (hX : Xc M S) (hO : OkS S)  : Ct l G yX5_count wsX5_count 7 ([.ref (G.2.2 72), .int (nI 4)] : List Value) M (rI (cnt8 S 4) M) := by
  have hB := hX.1
  have hW := hO.1
  refine Ct.of (cc := cX5_count) (maxL := 2) (ret := (some .int)) (lv := [(0, .ref (G.2.2 72)), (1, .int (nI 4))]) (by decide) rfl rfl (Nat.le_of_ble_eq_true rfl) ?_
  intro pg ev sg mm bl mt cd AZ C hret
  refine j_iload_n C dX5_count_0 rfl ?_
  refine j_tableIn C dX5_count_1 (off := 79) (tgt := 80) (by decide) (by decide) (by decide) (by decide) ?_
  refine j_aload_n C dX5_count_80 rfl ?_
  refine j_getf C dX5_count_81 rfl (by decide) (T := TX5) rfl in_X5_count_X5 (k := 0) (by decide) fl_X5_count_12 rfl rfl ?_
  refine j_callV C (ct_paintersServed (b := 0) (by decide) hB hW) dX5_count_84 (cell_B (b := 0) (by decide)) (by decide) (T := TX0) rfl gX5_count_X0_paintersServed rfl kd_X0_paintersServed rfl rfl (Nat.le_of_ble_eq_true rfl) ⟨by decide, by decide⟩ ⟨Nat.zero_le _, Nat.zero_le _⟩ (k_I ?_)
  exact j_ireturn C hret dX5_count_87 ⟨rfl, rfl⟩

set_option maxHeartbeats 4000000 in
set_option maxRecDepth 100000 in
theorem ct_count_5 {l : Launch} {G : GG} {M : MM} {S : SS} (hX : Xc M S) (hO : OkS S)  : Ct l G yX5_count wsX5_count 7 ([.ref (G.2.2 72), .int (nI 5)] : List Value) M (rI (cnt8 S 5) M) := by
  have hB := hX.1
  have hW := hO.1
  refine Ct.of (cc := cX5_count) (maxL := 2) (ret := (some .int)) (lv := [(0, .ref (G.2.2 72)), (1, .int (nI 5))]) (by decide) rfl rfl (Nat.le_of_ble_eq_true rfl) ?_
  intro pg ev sg mm bl mt cd AZ C hret
  refine j_iload_n C dX5_count_0 rfl ?_
  refine j_tableIn C dX5_count_1 (off := 87) (tgt := 88) (by decide) (by decide) (by decide) (by decide) ?_
  refine j_aload_n C dX5_count_88 rfl ?_
  refine j_getf C dX5_count_89 rfl (by decide) (T := TX5) rfl in_X5_count_X5 (k := 0) (by decide) fl_X5_count_12 rfl rfl ?_
  refine j_getfN C dX5_count_92 (cell_B (b := 0) (by decide)) (by decide) (T := TX0) rfl in_X5_count_X0 (k := 8) (by decide) nl_X5_207 rfl rfl ?_
  refine j_top C (_) hB.2.2.2.2.2.2.2.2.1 ?_
  exact j_ireturn C hret dX5_count_95 ⟨rfl, rfl⟩

set_option maxHeartbeats 4000000 in
set_option maxRecDepth 100000 in
theorem ct_count_6 {l : Launch} {G : GG} {M : MM} {S : SS} (hX : Xc M S) (hO : OkS S)  : Ct l G yX5_count wsX5_count 7 ([.ref (G.2.2 72), .int (nI 6)] : List Value) M (rI (cnt8 S 6) M) := by
  have hB := hX.1
  have hW := hO.1
  refine Ct.of (cc := cX5_count) (maxL := 2) (ret := (some .int)) (lv := [(0, .ref (G.2.2 72)), (1, .int (nI 6))]) (by decide) rfl rfl (Nat.le_of_ble_eq_true rfl) ?_
  intro pg ev sg mm bl mt cd AZ C hret
  refine j_iload_n C dX5_count_0 rfl ?_
  refine j_tableIn C dX5_count_1 (off := 95) (tgt := 96) (by decide) (by decide) (by decide) (by decide) ?_
  refine j_aload_n C dX5_count_96 rfl ?_
  refine j_getf C dX5_count_97 rfl (by decide) (T := TX5) rfl in_X5_count_X5 (k := 0) (by decide) fl_X5_count_12 rfl rfl ?_
  refine j_getfN C dX5_count_100 (cell_B (b := 0) (by decide)) (by decide) (T := TX0) rfl in_X5_count_X0 (k := 9) (by decide) nl_X5_210 rfl rfl ?_
  refine j_top C (_) hB.2.2.2.2.2.2.2.2.2 ?_
  exact j_ireturn C hret dX5_count_103 ⟨rfl, rfl⟩

set_option maxHeartbeats 4000000 in
set_option maxRecDepth 100000 in
theorem ct_count_7 {l : Launch} {G : GG} {M : MM} {S : SS} (hX : Xc M S) (hO : OkS S)  : Ct l G yX5_count wsX5_count 7 ([.ref (G.2.2 72), .int (nI 7)] : List Value) M (rI (cnt8 S 7) M) := by
  have hB := hX.1
  have hW := hO.1
  refine Ct.of (cc := cX5_count) (maxL := 2) (ret := (some .int)) (lv := [(0, .ref (G.2.2 72)), (1, .int (nI 7))]) (by decide) rfl rfl (Nat.le_of_ble_eq_true rfl) ?_
  intro pg ev sg mm bl mt cd AZ C hret
  refine j_iload_n C dX5_count_0 rfl ?_
  refine j_tableIn C dX5_count_1 (off := 103) (tgt := 104) (by decide) (by decide) (by decide) (by decide) ?_
  refine j_aload_n C dX5_count_104 rfl ?_
  refine j_getf C dX5_count_105 rfl (by decide) (T := TX5) rfl in_X5_count_X5 (k := 1) (by decide) fl_X5_count_19 rfl rfl ?_
  refine j_getfN C dX5_count_108 rfl (by decide) (T := TX3) rfl in_X5_count_X3 (k := 3) (by decide) nl_X5_164 rfl rfl ?_
  refine j_top C (_) hX.2.1.2.1 ?_
  exact j_ireturn C hret dX5_count_111 ⟨rfl, rfl⟩

theorem ct_count {l : Launch} {G : GG} {M : MM} {S : SS} (hX : Xc M S) (hO : OkS S) {k : Nat} (hk : k ≤ 7) : Ct l G yX5_count wsX5_count 7 [.ref (G.2.2 72), .int (nI k)] M (rI (cnt8 S k) M) := by
  rcases (show k = 0 ∨ k = 1 ∨ k = 2 ∨ k = 3 ∨ k = 4 ∨ k = 5 ∨ k = 6 ∨ k = 7 by omega) with rfl | rfl | rfl | rfl | rfl | rfl | rfl | rfl
  · exact ct_count_0 hX hO
  · exact ct_count_1 hX hO
  · exact ct_count_2 hX hO
  · exact ct_count_3 hX hO
  · exact ct_count_4 hX hO
  · exact ct_count_5 hX hO
  · exact ct_count_6 hX hO
  · exact ct_count_7 hX hO

set_option maxHeartbeats 4000000 in
set_option maxRecDepth 100000 in
theorem ct_ifBorrowed {l : Launch} {G : GG} {M : MM} {S : SS} (hX : Xc M S) (hO : OkS S) {p q : Nat} (hp : p < 4) (hq : q < 4) : Ct l G yX5_ifBorrowed wsX5_ifBorrowed 5 ([.ref (G.2.2 72), .int (nI p), .int (nI q)] : List Value) M (rI (nI (prW S.1 p (q + 1))) M) := by
  have hB := hX.1
  have hW := hO.1
  refine Ct.of (cc := cX5_ifBorrowed) (maxL := 3) (ret := (some .int)) (lv := [(0, .ref (G.2.2 72)), (1, .int (nI p)), (2, .int (nI q))]) (by decide) rfl rfl (Nat.le_of_ble_eq_true rfl) ?_
  intro pg ev sg mm bl mt cd AZ C hret
  refine j_iload_n C dX5_ifBorrowed_0 rfl ?_
  refine j_callS C (ct_needPainter (by omega)) dX5_ifBorrowed_1 gX5_ifBorrowed_X5_needPainter rfl ks_X5_needPainter rfl rfl (Nat.le_of_ble_eq_true rfl) ⟨by decide, by decide⟩ ⟨Nat.zero_le _, Nat.zero_le _⟩ (k_V ?_)
  refine j_iload_n C dX5_ifBorrowed_4 rfl ?_
  refine j_callS C (ct_needPainter (by omega)) dX5_ifBorrowed_5 gX5_ifBorrowed_X5_needPainter rfl ks_X5_needPainter rfl rfl (Nat.le_of_ble_eq_true rfl) ⟨by decide, by decide⟩ ⟨Nat.zero_le _, Nat.zero_le _⟩ (k_V ?_)
  refine j_aload_n C dX5_ifBorrowed_8 rfl ?_
  refine j_getf C dX5_ifBorrowed_9 rfl (by decide) (T := TX5) rfl in_X5_ifBorrowed_X5 (k := 0) (by decide) fl_X5_ifBorrowed_12 rfl rfl ?_
  refine j_iload_n C dX5_ifBorrowed_12 rfl ?_
  refine j_iload_n C dX5_ifBorrowed_13 rfl ?_
  refine j_callV C (ct_pairsTold (b := 0) (ln := q + 1) (by decide) hB hW (by omega) (by omega)) dX5_ifBorrowed_14 (cell_B (b := 0) (by decide)) (by decide) (T := TX0) rfl gX5_ifBorrowed_X0_pairsTold rfl kd_X0_pairsTold rfl rfl (Nat.le_of_ble_eq_true rfl) ⟨by decide, by decide⟩ ⟨Nat.zero_le _, Nat.zero_le _⟩ (k_I ?_)
  exact j_ireturn C hret dX5_ifBorrowed_17 ⟨rfl, rfl⟩

set_option maxHeartbeats 4000000 in
set_option maxRecDepth 100000 in
theorem ct_leastChange {l : Launch} {G : GG} {M : MM} {S : SS} (hX : Xc M S) (hO : OkS S) {p i j : Nat} {az : Nat × Nat} (hz : az = nst S.1 p i j 1000) (hp : p < 4) (hi : i < 8) (hj : j < 8) (hne : ¬ i = j) : Ct l G yX5_leastChange wsX5_leastChange 5 ([.ref (G.2.2 72), .int (nI p), .int (nI i), .int (nI j)] : List Value) M (rI (lsR az) M) := by
  have hB := hX.1
  have hW := hO.1
  obtain ⟨q1, q2, q3, q4⟩ := hW.1 i hi
  have hin := nst_in S.1 p i j 1000
  rw [← hz] at hin
  refine Ct.of (cc := cX5_leastChange) (maxL := 5) (ret := (some .int)) (lv := [(0, .ref (G.2.2 72)), (1, .int (nI p)), (2, .int (nI i)), (3, .int (nI j))]) (by decide) rfl rfl (Nat.le_of_ble_eq_true rfl) ?_
  intro pg ev sg mm bl mt cd AZ C hret
  refine j_iload_n C dX5_leastChange_0 rfl ?_
  refine j_callS C (ct_needPainter (by omega)) dX5_leastChange_1 gX5_leastChange_X5_needPainter rfl ks_X5_needPainter rfl rfl (Nat.le_of_ble_eq_true rfl) ⟨by decide, by decide⟩ ⟨Nat.zero_le _, Nat.zero_le _⟩ (k_V ?_)
  refine j_iload_n C dX5_leastChange_4 rfl ?_
  refine j_callS C (ct_needPot (by omega)) dX5_leastChange_5 gX5_leastChange_X5_needPot rfl ks_X5_needPot rfl rfl (Nat.le_of_ble_eq_true rfl) ⟨by decide, by decide⟩ ⟨Nat.zero_le _, Nat.zero_le _⟩ (k_V ?_)
  refine j_iload_n C dX5_leastChange_8 rfl ?_
  refine j_callS C (ct_needPot (by omega)) dX5_leastChange_9 gX5_leastChange_X5_needPot rfl ks_X5_needPot rfl rfl (Nat.le_of_ble_eq_true rfl) ⟨by decide, by decide⟩ ⟨Nat.zero_le _, Nat.zero_le _⟩ (k_V ?_)
  refine j_iload_n C dX5_leastChange_12 rfl ?_
  refine j_iload_n C dX5_leastChange_13 rfl ?_
  refine j_callS C (ct_needUnlike hi hj hne) dX5_leastChange_14 gX5_leastChange_X5_needUnlike rfl ks_X5_needUnlike rfl rfl (Nat.le_of_ble_eq_true rfl) ⟨by decide, by decide⟩ ⟨Nat.zero_le _, Nat.zero_le _⟩ (k_V ?_)
  refine j_aload_n C dX5_leastChange_17 rfl ?_
  refine j_getf C dX5_leastChange_18 rfl (by decide) (T := TX5) rfl in_X5_leastChange_X5 (k := 0) (by decide) fl_X5_leastChange_12 rfl rfl ?_
  refine j_iload_n C dX5_leastChange_21 rfl ?_
  refine j_iload_n C dX5_leastChange_22 rfl ?_
  refine j_iload_n C dX5_leastChange_23 rfl ?_
  refine j_callV C (ct_nearestColour (b := 0) (by decide) hB hW hz hp hi hj) dX5_leastChange_24 (cell_B (b := 0) (by decide)) (by decide) (T := TX0) rfl gX5_leastChange_X0_nearestColour rfl kd_X0_nearestColour rfl rfl (Nat.le_of_ble_eq_true rfl) ⟨by decide, by decide⟩ ⟨Nat.zero_le _, Nat.zero_le _⟩ (k_I ?_)
  refine j_istore C dX5_leastChange_27 (by decide) ?_
  refine j_iload C dX5_leastChange_29 rfl ?_
  refine j_iconst C dX5_leastChange_31 (v := -1) (by decide) ?_
  refine j_icmp_neO C dX5_leastChange_32 (tgt := 39) (by decide) (Nat.lt_of_le_of_lt hin.1.1 (by decide)) (fun cq32 => ?_) (fun cq32 => ?_)
  · obtain ⟨k, hk1⟩ := Nat.exists_eq_succ_of_ne_zero (show az.1 ≠ 0 from cq32)
    obtain ⟨hk2, hk3, hk4⟩ := hin.2.2 k hk1
    have hk5 : k < 1000 := by have h9 : az.1 ≤ 1000 := hin.1.1; omega
    refine j_aload_n C dX5_leastChange_39 rfl ?_
    refine j_getf C dX5_leastChange_40 rfl (by decide) (T := TX5) rfl in_X5_leastChange_X5 (k := 0) (by decide) fl_X5_leastChange_12 rfl rfl ?_
    refine j_getfN C dX5_leastChange_43 (cell_B (b := 0) (by decide)) (by decide) (T := TX0) rfl in_X5_leastChange_X0 (k := 0) (by decide) nl_X5_49 rfl rfl ?_
    refine j_iload_n C dX5_leastChange_46 rfl ?_
    refine j_ialdN C dX5_leastChange_47 (show ilen 1 = some 8 from rfl) (by omega) (by decide) ?_
    refine j_top C _ (hB.1 _ (by omega)) ?_
    refine j_iload C dX5_leastChange_48 rfl ?_
    refine j_top C (_) ((congrArg oI hk1).trans (congrArg nI (cod_dig hk5))) ?_
    refine j_callS C (ct_change q1 q2 q3 (by omega) (by omega) (by omega)) dX5_leastChange_50 gX5_leastChange_X1_change rfl ks_X1_change rfl rfl (Nat.le_of_ble_eq_true rfl) ⟨by decide, by decide⟩ ⟨Nat.zero_le _, Nat.zero_le _⟩ (k_I ?_)
    refine j_top C (nI az.2) (congrArg nI hk2.symm) ?_
    exact j_ireturn C hret dX5_leastChange_53 (by first | exact ⟨congrArg (fun z => some (Value.int z)) ((lsR_0 cq32).symm), rfl⟩ | exact ⟨congrArg (fun z => some (Value.int z)) ((lsR_1 hk1).symm), rfl⟩)
  · refine j_iconst C dX5_leastChange_35 (v := -1) (by decide) ?_
    refine j_goto C dX5_leastChange_36 (tgt := 53) (by decide) ?_
    exact j_ireturn C hret dX5_leastChange_53 (by first | exact ⟨congrArg (fun z => some (Value.int z)) ((lsR_0 cq32).symm), rfl⟩ | exact ⟨congrArg (fun z => some (Value.int z)) ((lsR_1 hk1).symm), rfl⟩)

section JB
variable {G : GG} {p : Program} {l : Launch} {e : Env} {R : Room} {s : State} {m : MethodId} {args : Array Value} {below : List Frame} {meth : Method} {c : Code} {A : Nat → Prop} {nL : Nat} {Q : State → Prop} {k9 n9 pc : Nat} {lv : List (Nat × Value)} {st : List Value} {M : MM} {cc : ByteArray} {own : String} {Ts : List Cond}
theorem nI_le_oI {x a : Nat} (hx : x < 2 ^ 30) (ha : a < 2 ^ 30) : nI x ≤ oI a ↔ x < a := by
  cases a with
  | zero => exact ⟨fun h => absurd h (by
      have e : oI 0 = -1 := rfl
      rw [e, Int32.le_iff_toInt_le, nI_toInt (by omega)]
      have : ((-1 : Int32)).toInt = -1 := by decide
      rw [this]; omega), fun h => absurd h (Nat.not_lt_zero x)⟩
  | succ n => exact (nI_leI (by omega) (by omega)).trans Nat.lt_succ_iff.symm
theorem j_icmp_leNO (C : Cx G p s m args meth c A cc nL own Ts) {a b : Nat} {off : Int} {tgt : Nat} (hd : decode cc pc = .ok (.if_icmp .le off, 3)) (ht : (pc : Int) + off = (tgt : Int)) (ha : a < 2 ^ 30) (hb : b < 2 ^ 30)
    (kt : a < b → J G p l e R s m args below meth c A nL Q k9 n9 tgt lv st M) (kf : b ≤ a → J G p l e R s m args below meth c A nL Q k9 n9 (pc + 3) lv st M) : J G p l e R s m args below meth c A nL Q k9 n9 pc lv (.int (oI b) :: .int (nI a) :: st) M :=
  j_icmp_le C hd ht (fun h => kt ((nI_le_oI ha hb).mp h)) (fun h => kf (Nat.not_lt.mp fun q => h ((nI_le_oI ha hb).mpr q)))
end JB

set_option maxHeartbeats 4000000 in
set_option maxRecDepth 100000 in
theorem ct_bestPainter {l : Launch} {G : GG} {M : MM} {S : SS} (hX : Xc M S) (hO : OkS S)  : Ct l G yX5_bestPainter wsX5_bestPainter 5 ([.ref (G.2.2 72)] : List Value) M (rI (nI (bst S.1)) M) := by
  have hB := hX.1
  have hW := hO.1
  refine Ct.of (cc := cX5_bestPainter) (maxL := 5) (ret := (some .int)) (lv := [(0, .ref (G.2.2 72))]) (by decide) rfl rfl (Nat.le_of_ble_eq_true rfl) ?_
  intro pg ev sg mm bl mt cd AZ C hret
  refine j_iconst C dX5_bestPainter_0 (v := nI 0) (by decide) ?_
  refine j_istore_n C dX5_bestPainter_1 (by decide) ?_
  refine j_iconst C dX5_bestPainter_2 (v := -1) (by decide) ?_
  refine j_istore_n C dX5_bestPainter_3 (by decide) ?_
  refine j_iconst C dX5_bestPainter_4 (v := nI 0) (by decide) ?_
  refine j_istore_n C dX5_bestPainter_5 (by decide) ?_
  have L6 : ∀ n, n ≤ 4 → ∀ a : Nat × Nat, a = bestF S.1 n → J G pg l ev (rmD 5) sg mm ([.ref (G.2.2 72)] : List Value).toArray bl mt cd AZ 5 (MQ bl (QQ G (rI (nI (bst S.1)) M) AZ) ([.ref (G.2.2 72)] : List Value).toArray sg 0 0 AZ) 0 0 6 [(0, .ref (G.2.2 72)), (1, .int (nI a.1)), (2, .int (oI a.2)), (3, .int (nI n))] [] (M) := by
    refine dnto ?_
    intro n hn6 ih6 a ha
    have hba : a.1 ≤ n ∧ a.2 ≤ 65 := by rw [ha]; exact bestF_le S.1 n
    have hpr := pr_le S.1 n
    refine j_iload_n C dX5_bestPainter_6 rfl ?_
    refine j_iconst C dX5_bestPainter_7 (v := nI 4) (by decide) ?_
    refine j_icmp_geN C dX5_bestPainter_8 (tgt := 47) (by decide) (by omega) (by omega) (fun cq8 => ?_) (fun cq8 => ?_)
    · refine j_iload_n C dX5_bestPainter_47 rfl ?_
      exact j_ireturn C hret dX5_bestPainter_48 ⟨congrArg (fun z => some (Value.int z)) (by rw [ha, show n = 4 by omega]; rfl), rfl⟩
    · refine j_aload_n C dX5_bestPainter_11 rfl ?_
      refine j_getf C dX5_bestPainter_12 rfl (by decide) (T := TX5) rfl in_X5_bestPainter_X5 (k := 0) (by decide) fl_X5_bestPainter_12 rfl rfl ?_
      obtain ⟨hk, hs, hl⟩ := hW.2.1 n cq8
      refine j_iload_n C dX5_bestPainter_15 rfl ?_
      refine j_aload_n C dX5_bestPainter_16 rfl ?_
      refine j_getf C dX5_bestPainter_17 rfl (by decide) (T := TX5) rfl in_X5_bestPainter_X5 (k := 0) (by decide) fl_X5_bestPainter_12 rfl rfl ?_
      refine j_getfN C dX5_bestPainter_20 (cell_B (b := 0) (by decide)) (by decide) (T := TX0) rfl in_X5_bestPainter_X0 (k := 4) (by decide) nl_X5_72 rfl rfl ?_
      refine j_iload_n C dX5_bestPainter_23 rfl ?_
      refine j_ialdN C dX5_bestPainter_24 (show ilen 5 = some 4 from rfl) (by omega) (by decide) ?_
      refine j_top C _ (hB.2.2.2.2.1 _ (by omega)) ?_
      refine j_callV C (ct_pairsTold (b := 0) (by decide) hB hW (by omega) (by omega)) dX5_bestPainter_25 (cell_B (b := 0) (by decide)) (by decide) (T := TX0) rfl gX5_bestPainter_X0_pairsTold rfl kd_X0_pairsTold rfl rfl (Nat.le_of_ble_eq_true rfl) ⟨by decide, by decide⟩ ⟨Nat.zero_le _, Nat.zero_le _⟩ (k_I ?_)
      refine j_istore C dX5_bestPainter_28 (by decide) ?_
      refine j_iload C dX5_bestPainter_30 rfl ?_
      refine j_iload_n C dX5_bestPainter_32 rfl ?_
      refine j_icmp_leNO C dX5_bestPainter_33 (tgt := 41) (by decide) (by show pr S.1 n < _; omega) (by omega) (fun cq33 => ?_) (fun cq33 => ?_)
      · refine j_iincN C dX5_bestPainter_41 rfl (by decide) ?_
        refine j_goto C dX5_bestPainter_44 (tgt := 6) (by decide) ?_
        exact j_pick [0, 1, 2, 3] (by first | exact ih6 (by omega) _ (bestF_f ha cq33) | exact ih6 (by omega) (n, pr S.1 n + 1) (bestF_t ha cq33))
      · refine j_iload_n C dX5_bestPainter_36 rfl ?_
        refine j_istore_n C dX5_bestPainter_37 (by decide) ?_
        refine j_iload C dX5_bestPainter_38 rfl ?_
        refine j_istore_n C dX5_bestPainter_40 (by decide) ?_
        refine j_iincN C dX5_bestPainter_41 rfl (by decide) ?_
        refine j_goto C dX5_bestPainter_44 (tgt := 6) (by decide) ?_
        exact j_pick [0, 1, 2, 3] (by first | exact ih6 (by omega) _ (bestF_f ha cq33) | exact ih6 (by omega) (n, pr S.1 n + 1) (bestF_t ha cq33))
  exact L6 0 (by omega) (0, 0) rfl

theorem sumP_le (σ : Sg) : sumP σ 4 ≤ 256 := by
  have h0 := pr_le σ 0
  have h1 := pr_le σ 1
  have h2 := pr_le σ 2
  have h3 := pr_le σ 3
  show 0 + pr σ 0 + pr σ 1 + pr σ 2 + pr σ 3 ≤ 256
  omega
def shN (n : Nat) : UInt64 := FP.ddiv (FP.i2d (nI n)) (4637581716284768256)
def shr (σ : Sg) : UInt64 := shN (sumP σ 4)
theorem share_nan {n : Nat} (h : n ≤ 256) : vf_n64 (FP.ddiv (FP.i2d (nI n)) (4637581716284768256)) := by
  have k : ∀ n, n < 257 → (FP.ddiv (FP.i2d (nI n)) (4637581716284768256)) &&& 0x7fffffffffffffff ≤ 0x7ff0000000000000 := by decide +kernel
  exact k n (by omega)

set_option maxHeartbeats 4000000 in
set_option maxRecDepth 100000 in
theorem ct_apartShare {l : Launch} {G : GG} {M : MM} {S : SS} (hX : Xc M S) (hO : OkS S)  : Ct l G yX5_apartShare wsX5_apartShare 5 ([.ref (G.2.2 72)] : List Value) M (rD (shr S.1) M) := by
  have hB := hX.1
  have hW := hO.1
  refine Ct.of (cc := cX5_apartShare) (maxL := 3) (ret := (some .double)) (lv := [(0, .ref (G.2.2 72))]) (by decide) rfl rfl (Nat.le_of_ble_eq_true rfl) ?_
  intro pg ev sg mm bl mt cd AZ C hret
  refine j_iconst C dX5_apartShare_0 (v := nI 0) (by decide) ?_
  refine j_istore_n C dX5_apartShare_1 (by decide) ?_
  refine j_iconst C dX5_apartShare_2 (v := nI 0) (by decide) ?_
  refine j_istore_n C dX5_apartShare_3 (by decide) ?_
  have L4 : ∀ n, n ≤ 4 → J G pg l ev (rmD 5) sg mm ([.ref (G.2.2 72)] : List Value).toArray bl mt cd AZ 3 (MQ bl (QQ G (rD (shr S.1) M) AZ) ([.ref (G.2.2 72)] : List Value).toArray sg 0 0 AZ) 0 0 4 [(0, .ref (G.2.2 72)), (1, .int (nI (sumP S.1 n))), (2, .int (nI n))] [] (M) := by
    refine dnto ?_
    intro n hn4 ih4
    refine j_iload_n C dX5_apartShare_4 rfl ?_
    refine j_iconst C dX5_apartShare_5 (v := nI 4) (by decide) ?_
    refine j_icmp_geN C dX5_apartShare_6 (tgt := 35) (by decide) (by omega) (by omega) (fun cq6 => ?_) (fun cq6 => ?_)
    · have e4 : n = 4 := by omega
      subst e4
      refine j_iload_n C dX5_apartShare_35 rfl ?_
      refine j_i2d C dX5_apartShare_36 ?_
      refine j_ldc2d C dX5_apartShare_37 cst_X5_apartShare_231 ?_
      refine j_ddiv C dX5_apartShare_40 (share_nan (sumP_le S.1)) ?_
      exact j_dreturn C hret dX5_apartShare_41 ⟨rfl, rfl⟩
    · obtain ⟨hk, hs, hl⟩ := hW.2.1 n cq6
      refine j_iload_n C dX5_apartShare_9 rfl ?_
      refine j_aload_n C dX5_apartShare_10 rfl ?_
      refine j_getf C dX5_apartShare_11 rfl (by decide) (T := TX5) rfl in_X5_apartShare_X5 (k := 0) (by decide) fl_X5_apartShare_12 rfl rfl ?_
      refine j_iload_n C dX5_apartShare_14 rfl ?_
      refine j_aload_n C dX5_apartShare_15 rfl ?_
      refine j_getf C dX5_apartShare_16 rfl (by decide) (T := TX5) rfl in_X5_apartShare_X5 (k := 0) (by decide) fl_X5_apartShare_12 rfl rfl ?_
      refine j_getfN C dX5_apartShare_19 (cell_B (b := 0) (by decide)) (by decide) (T := TX0) rfl in_X5_apartShare_X0 (k := 4) (by decide) nl_X5_72 rfl rfl ?_
      refine j_iload_n C dX5_apartShare_22 rfl ?_
      refine j_ialdN C dX5_apartShare_23 (show ilen 5 = some 4 from rfl) (by omega) (by decide) ?_
      refine j_top C _ (hB.2.2.2.2.1 _ (by omega)) ?_
      refine j_callV C (ct_pairsTold (b := 0) (by decide) hB hW (by omega) (by omega)) dX5_apartShare_24 (cell_B (b := 0) (by decide)) (by decide) (T := TX0) rfl gX5_apartShare_X0_pairsTold rfl kd_X0_pairsTold rfl rfl (Nat.le_of_ble_eq_true rfl) ⟨by decide, by decide⟩ ⟨Nat.zero_le _, Nat.zero_le _⟩ (k_I ?_)
      refine j_iaddN C dX5_apartShare_27 ?_
      refine j_istore_n C dX5_apartShare_28 (by decide) ?_
      refine j_iincN C dX5_apartShare_29 rfl (by decide) ?_
      refine j_goto C dX5_apartShare_32 (tgt := 4) (by decide) ?_
      exact ih4 (by omega)
  exact L4 0 (by omega)
