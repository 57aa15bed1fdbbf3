set_option maxRecDepth 20000 in
theorem in_X0_tellsColours_X0 : ∀ w ∈ wsX00, w ∈ wsX0_tellsColours := by decide +kernel
set_option maxRecDepth 20000 in
theorem fl_X0_tellsColours_21 : Cond.fieldLink RX0 21 "PotLabels$Bureau" "sharpnesses" "[I" ∈ wsX0_tellsColours := by decide +kernel
set_option maxRecDepth 20000 in
theorem fl_X0_tellsColours_18 : Cond.fieldLink RX0 18 "PotLabels$Bureau" "kinds" "[I" ∈ wsX0_tellsColours := by decide +kernel
set_option maxRecDepth 20000 in
theorem in_X0_tells_X0 : ∀ w ∈ wsX00, w ∈ wsX0_tells := by decide +kernel
set_option maxRecDepth 20000 in
theorem fl_X0_tells_24 : Cond.fieldLink RX0 24 "PotLabels$Bureau" "lenders" "[I" ∈ wsX0_tells := by decide +kernel
set_option maxRecDepth 20000 in
theorem fl_X0_tells_9 : Cond.fieldLink RX0 9 "PotLabels$Bureau" "colours" "[I" ∈ wsX0_tells := by decide +kernel
set_option maxRecDepth 20000 in
theorem kd_X0_tellsColours : yX0_tellsColours.cls = RX0 ∧ yX0_tellsColours.cls ≠ "java/lang/invoke/MethodHandle" ∧ yX0_tellsColours.cls ≠ "java/lang/invoke/VarHandle" ∧ (parseMethodDescriptor yX0_tellsColours.desc).map (fun d => d.parameters.length) = some 4 := by decide +kernel
set_option maxRecDepth 20000 in
theorem in_X0_pairsTold_X0 : ∀ w ∈ wsX00, w ∈ wsX0_pairsTold := by decide +kernel
set_option maxRecDepth 20000 in
theorem fl_X0_pairsTold_9 : Cond.fieldLink RX0 9 "PotLabels$Bureau" "colours" "[I" ∈ wsX0_pairsTold := by decide +kernel
set_option maxRecDepth 20000 in
theorem in_X0_tellersOfPair_X0 : ∀ w ∈ wsX00, w ∈ wsX0_tellersOfPair := by decide +kernel
set_option maxRecDepth 20000 in
theorem fl_X0_tellersOfPair_24 : Cond.fieldLink RX0 24 "PotLabels$Bureau" "lenders" "[I" ∈ wsX0_tellersOfPair := by decide +kernel
set_option maxRecDepth 20000 in
theorem fl_X0_tellersOfPair_9 : Cond.fieldLink RX0 9 "PotLabels$Bureau" "colours" "[I" ∈ wsX0_tellersOfPair := by decide +kernel
set_option maxRecDepth 20000 in
theorem kd_X0_tellersOfPair : yX0_tellersOfPair.cls = RX0 ∧ yX0_tellersOfPair.cls ≠ "java/lang/invoke/MethodHandle" ∧ yX0_tellersOfPair.cls ≠ "java/lang/invoke/VarHandle" ∧ (parseMethodDescriptor yX0_tellersOfPair.desc).map (fun d => d.parameters.length) = some 2 := by decide +kernel
set_option maxRecDepth 20000 in
theorem in_X0_labelled_X0 : ∀ w ∈ wsX00, w ∈ wsX0_labelled := by decide +kernel
set_option maxRecDepth 20000 in
theorem fl_X0_labelled_15 : Cond.fieldLink RX0 15 "PotLabels$Bureau" "labels" "[I" ∈ wsX0_labelled := by decide +kernel
set_option maxRecDepth 20000 in
theorem in_X0_wrongPairs_X0 : ∀ w ∈ wsX00, w ∈ wsX0_wrongPairs := by decide +kernel
set_option maxRecDepth 20000 in
theorem fl_X0_wrongPairs_15 : Cond.fieldLink RX0 15 "PotLabels$Bureau" "labels" "[I" ∈ wsX0_wrongPairs := by decide +kernel
set_option maxRecDepth 20000 in
theorem kd_X0_tells : yX0_tells.cls = RX0 ∧ yX0_tells.cls ≠ "java/lang/invoke/MethodHandle" ∧ yX0_tells.cls ≠ "java/lang/invoke/VarHandle" ∧ (parseMethodDescriptor yX0_tells.desc).map (fun d => d.parameters.length) = some 3 := by decide +kernel
set_option maxRecDepth 20000 in
theorem kd_X0_wrongPairs : yX0_wrongPairs.cls = RX0 ∧ yX0_wrongPairs.cls ≠ "java/lang/invoke/MethodHandle" ∧ yX0_wrongPairs.cls ≠ "java/lang/invoke/VarHandle" ∧ (parseMethodDescriptor yX0_wrongPairs.desc).map (fun d => d.parameters.length) = some 1 := by decide +kernel
set_option maxRecDepth 20000 in
theorem in_X0_readersOf_X0 : ∀ w ∈ wsX00, w ∈ wsX0_readersOf := by decide +kernel
set_option maxRecDepth 20000 in
theorem fl_X0_readersOf_27 : Cond.fieldLink RX0 27 "PotLabels$Bureau" "figures" "[I" ∈ wsX0_readersOf := by decide +kernel
set_option maxRecDepth 20000 in
theorem fl_X0_readersOf_30 : Cond.fieldLink RX0 30 "PotLabels$Bureau" "grounds" "[I" ∈ wsX0_readersOf := by decide +kernel
set_option maxRecDepth 20000 in
theorem in_X0_chartsRead_X0 : ∀ w ∈ wsX00, w ∈ wsX0_chartsRead := by decide +kernel
set_option maxRecDepth 20000 in
theorem fl_X0_chartsRead_39 : Cond.fieldLink RX0 39 "PotLabels$Bureau" "charts" "I" ∈ wsX0_chartsRead := by decide +kernel
set_option maxRecDepth 20000 in
theorem fl_X0_chartsRead_27 : Cond.fieldLink RX0 27 "PotLabels$Bureau" "figures" "[I" ∈ wsX0_chartsRead := by decide +kernel
set_option maxRecDepth 20000 in
theorem fl_X0_chartsRead_30 : Cond.fieldLink RX0 30 "PotLabels$Bureau" "grounds" "[I" ∈ wsX0_chartsRead := by decide +kernel
set_option maxHeartbeats 4000000 in
set_option maxRecDepth 100000 in
theorem ct_tellsColours {l : Launch} {G : GG} {M : MM} {b : Nat} {σ : Sg} (hb : b < 9) (hB : Bu M b σ) (hW : Wf σ) {p ln cr cg cb dr dg db : Nat} (hp : p < 4) (hln : ln ≤ 4) (h1 : cr ≤ 9) (h2 : cg ≤ 9) (h3 : cb ≤ 9) (h4 : dr ≤ 9) (h5 : dg ≤ 9) (h6 : db ≤ 9) : Ct l G yX0_tellsColours wsX0_tellsColours 3 ([.ref (G.2.2 (8 * b)), .int (nI p), .int (oI ln), .int (nI (cod cr cg cb)), .int (nI (cod dr dg db))] : List Value) M (rI (bI (tC σ p ln cr cg cb dr dg db)) M) := by
  obtain ⟨hk, hs, hl⟩ := hW.2.1 p hp
  have hk2 : ¬ ln = 0 → σ (32 + 3 * (ln - 1)) ≤ 3 := fun h => (hW.2.1 (ln - 1) (by omega)).1
  have hd1 := dist_le (kd := σ (32 + 3 * p)) h1 h2 h3 h4 h5 h6
  have hd2 := dist_le (kd := σ (32 + 3 * (ln - 1))) h1 h2 h3 h4 h5 h6
  refine Ct.of (cc := cX0_tellsColours) (maxL := 6) (ret := (some .boolean)) (lv := [(0, .ref (G.2.2 (8 * b))), (1, .int (nI p)), (2, .int (oI ln)), (3, .int (nI (cod cr cg cb))), (4, .int (nI (cod dr dg db)))]) (by decide) rfl rfl (Nat.le_of_ble_eq_true rfl) ?_
  intro pg ev sg mm bl mt cd AZ C hret
  refine j_aload_n C dX0_tellsColours_0 rfl ?_
  refine j_getf C dX0_tellsColours_1 (cell_B hb) (by have := hb; unfold NN; omega) (T := TX0) rfl in_X0_tellsColours_X0 (k := 3) (by decide) fl_X0_tellsColours_21 rfl rfl ?_
  refine j_iload_n C dX0_tellsColours_4 rfl ?_
  refine j_ialdN C dX0_tellsColours_5 (show ilen (8 * b + 4) = some 4 from ilen_B hb (by decide) (by decide)) (by omega) (by decide) ?_
  refine j_top C _ (hB.2.2.2.1 _ (by omega)) ?_
  refine j_istore C dX0_tellsColours_6 (by decide) ?_
  refine j_aload_n C dX0_tellsColours_8 rfl ?_
  refine j_getf C dX0_tellsColours_9 (cell_B hb) (by have := hb; unfold NN; omega) (T := TX0) rfl in_X0_tellsColours_X0 (k := 2) (by decide) fl_X0_tellsColours_18 rfl rfl ?_
  refine j_iload_n C dX0_tellsColours_12 rfl ?_
  refine j_ialdN C dX0_tellsColours_13 (show ilen (8 * b + 3) = some 4 from ilen_B hb (by decide) (by decide)) (by omega) (by decide) ?_
  refine j_top C _ (hB.2.2.1 _ (by omega)) ?_
  refine j_iload_n C dX0_tellsColours_14 rfl ?_
  refine j_iload C dX0_tellsColours_15 rfl ?_
  refine j_callS C (ct_distance (by first | exact hk | exact hk2 cq29) h1 h2 h3 h4 h5 h6) dX0_tellsColours_17 gX0_tellsColours_X1_distance rfl ks_X1_distance rfl rfl (Nat.le_of_ble_eq_true rfl) ⟨by decide, by decide⟩ ⟨Nat.zero_le _, Nat.zero_le _⟩ (k_I ?_)
  refine j_iload C dX0_tellsColours_20 rfl ?_
  refine j_icmp_leN C dX0_tellsColours_22 (tgt := 27) (by decide) (by omega) (by omega) (fun cq22 => ?_) (fun cq22 => ?_)
  · refine j_iload_n C dX0_tellsColours_27 rfl ?_
    refine j_iconst C dX0_tellsColours_28 (v := -1) (by decide) ?_
    refine j_icmp_eqO C dX0_tellsColours_29 (tgt := 53) (by decide) (by omega) (fun cq29 => ?_) (fun cq29 => ?_)
    · refine j_iconst C dX0_tellsColours_53 (v := nI 0) (by decide) ?_
      refine j_top C (bI (tC σ p ln cr cg cb dr dg db)) (by first | exact tC_f1 cq22 cq29 | exact tC_f2 cq22 cq46) ?_
      exact j_zreturn C hret dX0_tellsColours_54 ⟨rfl, rfl⟩
    · refine j_aload_n C dX0_tellsColours_32 rfl ?_
      refine j_getf C dX0_tellsColours_33 (cell_B hb) (by have := hb; unfold NN; omega) (T := TX0) rfl in_X0_tellsColours_X0 (k := 2) (by decide) fl_X0_tellsColours_18 rfl rfl ?_
      refine j_iload_n C dX0_tellsColours_36 rfl ?_
      refine j_top C (_) (oI_pos cq29) ?_
      refine j_ialdN C dX0_tellsColours_37 (show ilen (8 * b + 3) = some 4 from ilen_B hb (by decide) (by decide)) (by omega) (by decide) ?_
      refine j_top C _ (hB.2.2.1 _ (by omega)) ?_
      refine j_iload_n C dX0_tellsColours_38 rfl ?_
      refine j_iload C dX0_tellsColours_39 rfl ?_
      refine j_callS C (ct_distance (hk2 cq29) h1 h2 h3 h4 h5 h6) dX0_tellsColours_41 gX0_tellsColours_X1_distance rfl ks_X1_distance rfl rfl (Nat.le_of_ble_eq_true rfl) ⟨by decide, by decide⟩ ⟨Nat.zero_le _, Nat.zero_le _⟩ (k_I ?_)
      refine j_iload C dX0_tellsColours_44 rfl ?_
      refine j_icmp_leN C dX0_tellsColours_46 (tgt := 53) (by decide) (by omega) (by omega) (fun cq46 => ?_) (fun cq46 => ?_)
      · refine j_iconst C dX0_tellsColours_53 (v := nI 0) (by decide) ?_
        refine j_top C (bI (tC σ p ln cr cg cb dr dg db)) (by first | exact tC_f1 cq22 cq29 | exact tC_f2 cq22 cq46) ?_
        exact j_zreturn C hret dX0_tellsColours_54 ⟨rfl, rfl⟩
      · refine j_iconst C dX0_tellsColours_49 (v := nI 1) (by decide) ?_
        refine j_top C (bI (tC σ p ln cr cg cb dr dg db)) (tC_t2 cq29 cq46) ?_
        refine j_goto C dX0_tellsColours_50 (tgt := 54) (by decide) ?_
        exact j_zreturn C hret dX0_tellsColours_54 ⟨rfl, rfl⟩
  · refine j_iconst C dX0_tellsColours_25 (v := nI 1) (by decide) ?_
    refine j_top C (bI (tC σ p ln cr cg cb dr dg db)) (tC_t1 cq22) ?_
    exact j_zreturn C hret dX0_tellsColours_26 ⟨rfl, rfl⟩

set_option maxHeartbeats 4000000 in
set_option maxRecDepth 100000 in
theorem ct_tells {l : Launch} {G : GG} {M : MM} {b : Nat} {σ : Sg} (hb : b < 9) (hB : Bu M b σ) (hW : Wf σ) {p i j : Nat} (hp : p < 4) (hi : i < 8) (hj : j < 8) : Ct l G yX0_tells wsX0_tells 4 ([.ref (G.2.2 (8 * b)), .int (nI p), .int (nI i), .int (nI j)] : List Value) M (rI (bI (ap σ p i j)) M) := by
  obtain ⟨hk, hs, hl⟩ := hW.2.1 p hp
  obtain ⟨q1, q2, q3, q4⟩ := hW.1 i hi
  obtain ⟨r1, r2, r3, r4⟩ := hW.1 j hj
  refine Ct.of (cc := cX0_tells) (maxL := 4) (ret := (some .boolean)) (lv := [(0, .ref (G.2.2 (8 * b))), (1, .int (nI p)), (2, .int (nI i)), (3, .int (nI j))]) (by decide) rfl rfl (Nat.le_of_ble_eq_true rfl) ?_
  intro pg ev sg mm bl mt cd AZ C hret
  refine j_aload_n C dX0_tells_0 rfl ?_
  refine j_iload_n C dX0_tells_1 rfl ?_
  refine j_aload_n C dX0_tells_2 rfl ?_
  refine j_getf C dX0_tells_3 (cell_B hb) (by have := hb; unfold NN; omega) (T := TX0) rfl in_X0_tells_X0 (k := 4) (by decide) fl_X0_tells_24 rfl rfl ?_
  refine j_iload_n C dX0_tells_6 rfl ?_
  refine j_ialdN C dX0_tells_7 (show ilen (8 * b + 5) = some 4 from ilen_B hb (by decide) (by decide)) (by omega) (by decide) ?_
  refine j_top C _ (hB.2.2.2.2.1 _ (by omega)) ?_
  refine j_aload_n C dX0_tells_8 rfl ?_
  refine j_getf C dX0_tells_9 (cell_B hb) (by have := hb; unfold NN; omega) (T := TX0) rfl in_X0_tells_X0 (k := 0) (by decide) fl_X0_tells_9 rfl rfl ?_
  refine j_iload_n C dX0_tells_12 rfl ?_
  refine j_ialdN C dX0_tells_13 (show ilen (8 * b + 1) = some 8 from ilen_B hb (by decide) (by decide)) (by omega) (by decide) ?_
  refine j_top C _ (hB.1 _ (by omega)) ?_
  refine j_aload_n C dX0_tells_14 rfl ?_
  refine j_getf C dX0_tells_15 (cell_B hb) (by have := hb; unfold NN; omega) (T := TX0) rfl in_X0_tells_X0 (k := 0) (by decide) fl_X0_tells_9 rfl rfl ?_
  refine j_iload_n C dX0_tells_18 rfl ?_
  refine j_ialdN C dX0_tells_19 (show ilen (8 * b + 1) = some 8 from ilen_B hb (by decide) (by decide)) (by omega) (by decide) ?_
  refine j_top C _ (hB.1 _ (by omega)) ?_
  refine j_callV C (ct_tellsColours hb hB hW (by omega) (by omega) (by omega) (by omega) (by omega) (by omega) (by omega) (by omega)) dX0_tells_20 (cell_B hb) (by have := hb; unfold NN; omega) (T := TX0) rfl gX0_tells_X0_tellsColours rfl kd_X0_tellsColours rfl rfl (Nat.le_of_ble_eq_true rfl) ⟨by decide, by decide⟩ ⟨Nat.zero_le _, Nat.zero_le _⟩ (k_I ?_)
  exact j_zreturn C hret dX0_tells_23 ⟨rfl, rfl⟩

set_option maxHeartbeats 4000000 in
set_option maxRecDepth 100000 in
theorem ct_pairsTold {l : Launch} {G : GG} {M : MM} {b : Nat} {σ : Sg} (hb : b < 9) (hB : Bu M b σ) (hW : Wf σ) {p ln : Nat} (hp : p < 4) (hln : ln ≤ 4) : Ct l G yX0_pairsTold wsX0_pairsTold 4 ([.ref (G.2.2 (8 * b)), .int (nI p), .int (oI ln)] : List Value) M (rI (nI (prW σ p ln)) M) := by
  obtain ⟨hk, hs, hl⟩ := hW.2.1 p hp
  refine Ct.of (cc := cX0_pairsTold) (maxL := 6) (ret := (some .int)) (lv := [(0, .ref (G.2.2 (8 * b))), (1, .int (nI p)), (2, .int (oI ln))]) (by decide) rfl rfl (Nat.le_of_ble_eq_true rfl) ?_
  intro pg ev sg mm bl mt cd AZ C hret
  refine j_iconst C dX0_pairsTold_0 (v := nI 0) (by decide) ?_
  refine j_istore_n C dX0_pairsTold_1 (by decide) ?_
  refine j_iconst C dX0_pairsTold_2 (v := nI 0) (by decide) ?_
  refine j_istore C dX0_pairsTold_3 (by decide) ?_
  have L5 : ∀ i, i ≤ 8 → ∀ acc, acc = cntN (8 * i) (prF σ p ln) → J G pg l ev (rmD 4) sg mm ([.ref (G.2.2 (8 * b)), .int (nI p), .int (oI ln)] : List Value).toArray bl mt cd AZ 6 (MQ bl (QQ G (rI (nI (prW σ p ln)) M) AZ) ([.ref (G.2.2 (8 * b)), .int (nI p), .int (oI ln)] : List Value).toArray sg 0 0 AZ) 0 0 5 [(0, .ref (G.2.2 (8 * b))), (1, .int (nI p)), (2, .int (oI ln)), (3, .int (nI acc)), (4, .int (nI i))] [] (M) := by
    refine dnto ?_
    intro i hi5 ih5 acc ha
    refine j_iload C dX0_pairsTold_5 rfl ?_
    refine j_bipush C dX0_pairsTold_7 (v := nI 8) (by decide) ?_
    refine j_icmp_geN C dX0_pairsTold_9 (tgt := 63) (by decide) (by omega) (by omega) (fun cq9 => ?_) (fun cq9 => ?_)
    · refine j_iload_n C dX0_pairsTold_63 rfl ?_
      exact j_ireturn C hret dX0_pairsTold_64 ⟨congrArg (fun z => some (Value.int (nI z))) (by rw [ha, show i = 8 by omega]; rfl), rfl⟩
    · obtain ⟨q1, q2, q3, q4⟩ := hW.1 i cq9
      refine j_iload C dX0_pairsTold_12 rfl ?_
      refine j_iconst C dX0_pairsTold_14 (v := nI 1) (by decide) ?_
      refine j_iaddN C dX0_pairsTold_15 ?_
      refine j_istore C dX0_pairsTold_16 (by decide) ?_
      have L18 : ∀ j, j ≤ 8 → ∀ acc, i < j → acc = cntN (8 * i + j) (prF σ p ln) → J G pg l ev (rmD 4) sg mm ([.ref (G.2.2 (8 * b)), .int (nI p), .int (oI ln)] : List Value).toArray bl mt cd AZ 6 (MQ bl (QQ G (rI (nI (prW σ p ln)) M) AZ) ([.ref (G.2.2 (8 * b)), .int (nI p), .int (oI ln)] : List Value).toArray sg 0 0 AZ) 0 0 18 [(0, .ref (G.2.2 (8 * b))), (1, .int (nI p)), (2, .int (oI ln)), (3, .int (nI acc)), (4, .int (nI i)), (5, .int (nI j))] [] (M) := by
        refine dnto ?_
        intro j hj18 ih18 acc2 hij ha2
        refine j_iload C dX0_pairsTold_18 rfl ?_
        refine j_bipush C dX0_pairsTold_20 (v := nI 8) (by decide) ?_
        refine j_icmp_geN C dX0_pairsTold_22 (tgt := 57) (by decide) (by omega) (by omega) (fun cq22 => ?_) (fun cq22 => ?_)
        · refine j_iincN C dX0_pairsTold_57 rfl (by decide) ?_
          refine j_goto C dX0_pairsTold_60 (tgt := 5) (by decide) ?_
          exact j_pick [0, 1, 2, 3, 4] (ih5 (by omega) _ (by rw [ha2, show j = 8 by omega]; rfl))
        · obtain ⟨r1, r2, r3, r4⟩ := hW.1 j cq22
          refine j_aload_n C dX0_pairsTold_25 rfl ?_
          refine j_iload_n C dX0_pairsTold_26 rfl ?_
          refine j_iload_n C dX0_pairsTold_27 rfl ?_
          refine j_aload_n C dX0_pairsTold_28 rfl ?_
          refine j_getf C dX0_pairsTold_29 (cell_B hb) (by have := hb; unfold NN; omega) (T := TX0) rfl in_X0_pairsTold_X0 (k := 0) (by decide) fl_X0_pairsTold_9 rfl rfl ?_
          refine j_iload C dX0_pairsTold_32 rfl ?_
          refine j_ialdN C dX0_pairsTold_34 (show ilen (8 * b + 1) = some 8 from ilen_B hb (by decide) (by decide)) (by omega) (by decide) ?_
          refine j_top C _ (hB.1 _ (by omega)) ?_
          refine j_aload_n C dX0_pairsTold_35 rfl ?_
          refine j_getf C dX0_pairsTold_36 (cell_B hb) (by have := hb; unfold NN; omega) (T := TX0) rfl in_X0_pairsTold_X0 (k := 0) (by decide) fl_X0_pairsTold_9 rfl rfl ?_
          refine j_iload C dX0_pairsTold_39 rfl ?_
          refine j_ialdN C dX0_pairsTold_41 (show ilen (8 * b + 1) = some 8 from ilen_B hb (by decide) (by decide)) (by omega) (by decide) ?_
          refine j_top C _ (hB.1 _ (by omega)) ?_
          refine j_callV C (ct_tellsColours hb hB hW (by omega) (by omega) (by omega) (by omega) (by omega) (by omega) (by omega) (by omega)) dX0_pairsTold_42 (cell_B hb) (by have := hb; unfold NN; omega) (T := TX0) rfl gX0_pairsTold_X0_tellsColours rfl kd_X0_tellsColours rfl rfl (Nat.le_of_ble_eq_true rfl) ⟨by decide, by decide⟩ ⟨Nat.zero_le _, Nat.zero_le _⟩ (k_I ?_)
          refine j_if_eqB C dX0_pairsTold_45 (tgt := 51) (by decide) (fun cq45 => ?_) (fun cq45 => ?_)
          · refine j_iincN C dX0_pairsTold_51 rfl (by decide) ?_
            refine j_goto C dX0_pairsTold_54 (tgt := 18) (by decide) ?_
            exact ih18 (by omega) _ (by omega) (by first | exact cnt_t ha2 ((prF_at hij cq22).trans cq45) | exact cnt_f ha2 ((prF_at hij cq22).trans cq45))
          · refine j_iincN C dX0_pairsTold_48 rfl (by decide) ?_
            refine j_iincN C dX0_pairsTold_51 rfl (by decide) ?_
            refine j_goto C dX0_pairsTold_54 (tgt := 18) (by decide) ?_
            exact ih18 (by omega) _ (by omega) (by first | exact cnt_t ha2 ((prF_at hij cq22).trans cq45) | exact cnt_f ha2 ((prF_at hij cq22).trans cq45))
      exact L18 (i + 1) (by omega) _ (by omega) (tri_skip prF_no ha cq9)
  exact L5 0 (by omega) 0 rfl

set_option maxHeartbeats 4000000 in
set_option maxRecDepth 100000 in
theorem ct_tellersOfPair {l : Launch} {G : GG} {M : MM} {b : Nat} {σ : Sg} (hb : b < 9) (hB : Bu M b σ) (hW : Wf σ) {i j : Nat} (hi : i < 8) (hj : j < 8) : Ct l G yX0_tellersOfPair wsX0_tellersOfPair 4 ([.ref (G.2.2 (8 * b)), .int (nI i), .int (nI j)] : List Value) M (rI (nI (tpm σ i j)) M) := by
  obtain ⟨q1, q2, q3, q4⟩ := hW.1 i hi
  obtain ⟨r1, r2, r3, r4⟩ := hW.1 j hj
  refine Ct.of (cc := cX0_tellersOfPair) (maxL := 5) (ret := (some .int)) (lv := [(0, .ref (G.2.2 (8 * b))), (1, .int (nI i)), (2, .int (nI j))]) (by decide) rfl rfl (Nat.le_of_ble_eq_true rfl) ?_
  intro pg ev sg mm bl mt cd AZ C hret
  refine j_iconst C dX0_tellersOfPair_0 (v := nI 0) (by decide) ?_
  refine j_istore_n C dX0_tellersOfPair_1 (by decide) ?_
  refine j_iconst C dX0_tellersOfPair_2 (v := nI 0) (by decide) ?_
  refine j_istore C dX0_tellersOfPair_3 (by decide) ?_
  have L5 : ∀ p, p ≤ 4 → ∀ acc, acc = orN p (fun p => bif ap σ p i j then 2 ^ p else 0) → acc < 16 → J G pg l ev (rmD 4) sg mm ([.ref (G.2.2 (8 * b)), .int (nI i), .int (nI j)] : List Value).toArray bl mt cd AZ 5 (MQ bl (QQ G (rI (nI (tpm σ i j)) M) AZ) ([.ref (G.2.2 (8 * b)), .int (nI i), .int (nI j)] : List Value).toArray sg 0 0 AZ) 0 0 5 [(0, .ref (G.2.2 (8 * b))), (1, .int (nI i)), (2, .int (nI j)), (3, .int (nI acc)), (4, .int (nI p))] [] (M) := by
    refine dnto ?_
    intro p hp5 ih5 acc ha hlt
    refine j_iload C dX0_tellersOfPair_5 rfl ?_
    refine j_iconst C dX0_tellersOfPair_7 (v := nI 4) (by decide) ?_
    refine j_icmp_geN C dX0_tellersOfPair_8 (tgt := 52) (by decide) (by omega) (by omega) (fun cq8 => ?_) (fun cq8 => ?_)
    · refine j_iload_n C dX0_tellersOfPair_52 rfl ?_
      exact j_ireturn C hret dX0_tellersOfPair_53 ⟨congrArg (fun z => some (Value.int (nI z))) (by rw [ha, show p = 4 by omega]; rfl), rfl⟩
    · obtain ⟨hk, hs, hl⟩ := hW.2.1 p cq8
      refine j_aload_n C dX0_tellersOfPair_11 rfl ?_
      refine j_iload C dX0_tellersOfPair_12 rfl ?_
      refine j_aload_n C dX0_tellersOfPair_14 rfl ?_
      refine j_getf C dX0_tellersOfPair_15 (cell_B hb) (by have := hb; unfold NN; omega) (T := TX0) rfl in_X0_tellersOfPair_X0 (k := 4) (by decide) fl_X0_tellersOfPair_24 rfl rfl ?_
      refine j_iload C dX0_tellersOfPair_18 rfl ?_
      refine j_ialdN C dX0_tellersOfPair_20 (show ilen (8 * b + 5) = some 4 from ilen_B hb (by decide) (by decide)) (by omega) (by decide) ?_
      refine j_top C _ (hB.2.2.2.2.1 _ (by omega)) ?_
      refine j_aload_n C dX0_tellersOfPair_21 rfl ?_
      refine j_getf C dX0_tellersOfPair_22 (cell_B hb) (by have := hb; unfold NN; omega) (T := TX0) rfl in_X0_tellersOfPair_X0 (k := 0) (by decide) fl_X0_tellersOfPair_9 rfl rfl ?_
      refine j_iload_n C dX0_tellersOfPair_25 rfl ?_
      refine j_ialdN C dX0_tellersOfPair_26 (show ilen (8 * b + 1) = some 8 from ilen_B hb (by decide) (by decide)) (by omega) (by decide) ?_
      refine j_top C _ (hB.1 _ (by omega)) ?_
      refine j_aload_n C dX0_tellersOfPair_27 rfl ?_
      refine j_getf C dX0_tellersOfPair_28 (cell_B hb) (by have := hb; unfold NN; omega) (T := TX0) rfl in_X0_tellersOfPair_X0 (k := 0) (by decide) fl_X0_tellersOfPair_9 rfl rfl ?_
      refine j_iload_n C dX0_tellersOfPair_31 rfl ?_
      refine j_ialdN C dX0_tellersOfPair_32 (show ilen (8 * b + 1) = some 8 from ilen_B hb (by decide) (by decide)) (by omega) (by decide) ?_
      refine j_top C _ (hB.1 _ (by omega)) ?_
      refine j_callV C (ct_tellsColours hb hB hW (by omega) (by omega) (by omega) (by omega) (by omega) (by omega) (by omega) (by omega)) dX0_tellersOfPair_33 (cell_B hb) (by have := hb; unfold NN; omega) (T := TX0) rfl gX0_tellersOfPair_X0_tellsColours rfl kd_X0_tellsColours rfl rfl (Nat.le_of_ble_eq_true rfl) ⟨by decide, by decide⟩ ⟨Nat.zero_le _, Nat.zero_le _⟩ (k_I ?_)
      refine j_if_eqB C dX0_tellersOfPair_36 (tgt := 46) (by decide) (fun cq36 => ?_) (fun cq36 => ?_)
      · refine j_iincN C dX0_tellersOfPair_46 rfl (by decide) ?_
        refine j_goto C dX0_tellersOfPair_49 (tgt := 5) (by decide) ?_
        exact ih5 (by omega) _ (by first | exact or_t ha (by rw [show ap σ p i j = true from cq36]; rfl) | exact or_f ha (by rw [show ap σ p i j = false from cq36]; rfl)) (by first | exact hlt | exact Nat.or_lt_two_pow (n := 4) hlt (Nat.pow_lt_pow_right (by decide) cq8))
      · refine j_iload_n C dX0_tellersOfPair_39 rfl ?_
        refine j_iconst C dX0_tellersOfPair_40 (v := nI 1) (by decide) ?_
        refine j_iload C dX0_tellersOfPair_41 rfl ?_
        refine j_ishl C dX0_tellersOfPair_43 ?_
        refine j_top C (_) (nI_shl1 (by omega)) ?_
        refine j_ior C dX0_tellersOfPair_44 ?_
        refine j_top C (_) (nI_or (by omega) (Nat.lt_trans (Nat.pow_lt_pow_right (by decide) (show p < 5 by omega)) (by decide))) ?_
        refine j_istore_n C dX0_tellersOfPair_45 (by decide) ?_
        refine j_iincN C dX0_tellersOfPair_46 rfl (by decide) ?_
        refine j_goto C dX0_tellersOfPair_49 (tgt := 5) (by decide) ?_
        exact ih5 (by omega) _ (by first | exact or_t ha (by rw [show ap σ p i j = true from cq36]; rfl) | exact or_f ha (by rw [show ap σ p i j = false from cq36]; rfl)) (by first | exact hlt | exact Nat.or_lt_two_pow (n := 4) hlt (Nat.pow_lt_pow_right (by decide) cq8))
  exact L5 0 (by omega) 0 rfl (by omega)

set_option maxHeartbeats 4000000 in
set_option maxRecDepth 100000 in
theorem ct_tellersOf {l : Launch} {G : GG} {M : MM} {b : Nat} {σ : Sg} (hb : b < 9) (hB : Bu M b σ) (hW : Wf σ) {i : Nat} (hi : i < 8) : Ct l G yX0_tellersOf wsX0_tellersOf 5 ([.ref (G.2.2 (8 * b)), .int (nI i)] : List Value) M (rI (nI (tom σ i)) M) := by
  refine Ct.of (cc := cX0_tellersOf) (maxL := 4) (ret := (some .int)) (lv := [(0, .ref (G.2.2 (8 * b))), (1, .int (nI i))]) (by decide) rfl rfl (Nat.le_of_ble_eq_true rfl) ?_
  intro pg ev sg mm bl mt cd AZ C hret
  refine j_iconst C dX0_tellersOf_0 (v := nI 0) (by decide) ?_
  refine j_istore_n C dX0_tellersOf_1 (by decide) ?_
  refine j_iconst C dX0_tellersOf_2 (v := nI 0) (by decide) ?_
  refine j_istore_n C dX0_tellersOf_3 (by decide) ?_
  have L4 : ∀ j, j ≤ 8 → ∀ acc, acc = orN j (fun j => tpm σ i j) → acc < 16 → J G pg l ev (rmD 5) sg mm ([.ref (G.2.2 (8 * b)), .int (nI i)] : List Value).toArray bl mt cd AZ 4 (MQ bl (QQ G (rI (nI (tom σ i)) M) AZ) ([.ref (G.2.2 (8 * b)), .int (nI i)] : List Value).toArray sg 0 0 AZ) 0 0 4 [(0, .ref (G.2.2 (8 * b))), (1, .int (nI i)), (2, .int (nI acc)), (3, .int (nI j))] [] (M) := by
    refine dnto ?_
    intro j hj4 ih4 acc ha hlt
    refine j_iload_n C dX0_tellersOf_4 rfl ?_
    refine j_bipush C dX0_tellersOf_5 (v := nI 8) (by decide) ?_
    refine j_icmp_geN C dX0_tellersOf_7 (tgt := 25) (by decide) (by omega) (by omega) (fun cq7 => ?_) (fun cq7 => ?_)
    · refine j_iload_n C dX0_tellersOf_25 rfl ?_
      exact j_ireturn C hret dX0_tellersOf_26 ⟨congrArg (fun z => some (Value.int (nI z))) (by rw [ha, show j = 8 by omega]; rfl), rfl⟩
    · refine j_iload_n C dX0_tellersOf_10 rfl ?_
      refine j_aload_n C dX0_tellersOf_11 rfl ?_
      refine j_iload_n C dX0_tellersOf_12 rfl ?_
      refine j_iload_n C dX0_tellersOf_13 rfl ?_
      refine j_callV C (ct_tellersOfPair hb hB hW (by omega) (by omega)) dX0_tellersOf_14 (cell_B hb) (by have := hb; unfold NN; omega) (T := TX0) rfl gX0_tellersOf_X0_tellersOfPair rfl kd_X0_tellersOfPair rfl rfl (Nat.le_of_ble_eq_true rfl) ⟨by decide, by decide⟩ ⟨Nat.zero_le _, Nat.zero_le _⟩ (k_I ?_)
      refine j_ior C dX0_tellersOf_17 ?_
      refine j_top C (_) (nI_or (by omega) (Nat.lt_trans tpm_lt (by decide))) ?_
      refine j_istore_n C dX0_tellersOf_18 (by decide) ?_
      refine j_iincN C dX0_tellersOf_19 rfl (by decide) ?_
      refine j_goto C dX0_tellersOf_22 (tgt := 4) (by decide) ?_
      exact ih4 (by omega) _ (or_t ha rfl) (Nat.or_lt_two_pow (n := 4) hlt tpm_lt)
  exact L4 0 (by omega) 0 rfl (by omega)

set_option maxHeartbeats 4000000 in
set_option maxRecDepth 100000 in
theorem ct_pairsToldByNobody {l : Launch} {G : GG} {M : MM} {b : Nat} {σ : Sg} (hb : b < 9) (hB : Bu M b σ) (hW : Wf σ)  : Ct l G yX0_pairsToldByNobody wsX0_pairsToldByNobody 5 ([.ref (G.2.2 (8 * b))] : List Value) M (rI (nI (nob σ)) M) := by
  refine Ct.of (cc := cX0_pairsToldByNobody) (maxL := 4) (ret := (some .int)) (lv := [(0, .ref (G.2.2 (8 * b)))]) (by decide) rfl rfl (Nat.le_of_ble_eq_true rfl) ?_
  intro pg ev sg mm bl mt cd AZ C hret
  refine j_iconst C dX0_pairsToldByNobody_0 (v := nI 0) (by decide) ?_
  refine j_istore_n C dX0_pairsToldByNobody_1 (by decide) ?_
  refine j_iconst C dX0_pairsToldByNobody_2 (v := nI 0) (by decide) ?_
  refine j_istore_n C dX0_pairsToldByNobody_3 (by decide) ?_
  have L4 : ∀ i, i ≤ 8 → ∀ acc, acc = cntN (8 * i) (nobF σ) → J G pg l ev (rmD 5) sg mm ([.ref (G.2.2 (8 * b))] : List Value).toArray bl mt cd AZ 4 (MQ bl (QQ G (rI (nI (nob σ)) M) AZ) ([.ref (G.2.2 (8 * b))] : List Value).toArray sg 0 0 AZ) 0 0 4 [(0, .ref (G.2.2 (8 * b))), (1, .int (nI acc)), (2, .int (nI i))] [] (M) := by
    refine dnto ?_
    intro i hi4 ih4 acc ha
    refine j_iload_n C dX0_pairsToldByNobody_4 rfl ?_
    refine j_bipush C dX0_pairsToldByNobody_5 (v := nI 8) (by decide) ?_
    refine j_icmp_geN C dX0_pairsToldByNobody_7 (tgt := 44) (by decide) (by omega) (by omega) (fun cq7 => ?_) (fun cq7 => ?_)
    · refine j_iload_n C dX0_pairsToldByNobody_44 rfl ?_
      exact j_ireturn C hret dX0_pairsToldByNobody_45 ⟨congrArg (fun z => some (Value.int (nI z))) (by rw [ha, show i = 8 by omega]; rfl), rfl⟩
    · refine j_iload_n C dX0_pairsToldByNobody_10 rfl ?_
      refine j_iconst C dX0_pairsToldByNobody_11 (v := nI 1) (by decide) ?_
      refine j_iaddN C dX0_pairsToldByNobody_12 ?_
      refine j_istore_n C dX0_pairsToldByNobody_13 (by decide) ?_
      have L14 : ∀ j, j ≤ 8 → ∀ acc, i < j → acc = cntN (8 * i + j) (nobF σ) → J G pg l ev (rmD 5) sg mm ([.ref (G.2.2 (8 * b))] : List Value).toArray bl mt cd AZ 4 (MQ bl (QQ G (rI (nI (nob σ)) M) AZ) ([.ref (G.2.2 (8 * b))] : List Value).toArray sg 0 0 AZ) 0 0 14 [(0, .ref (G.2.2 (8 * b))), (1, .int (nI acc)), (2, .int (nI i)), (3, .int (nI j))] [] (M) := by
        refine dnto ?_
        intro j hj14 ih14 acc2 hij ha2
        refine j_iload_n C dX0_pairsToldByNobody_14 rfl ?_
        refine j_bipush C dX0_pairsToldByNobody_15 (v := nI 8) (by decide) ?_
        refine j_icmp_geN C dX0_pairsToldByNobody_17 (tgt := 38) (by decide) (by omega) (by omega) (fun cq17 => ?_) (fun cq17 => ?_)
        · refine j_iincN C dX0_pairsToldByNobody_38 rfl (by decide) ?_
          refine j_goto C dX0_pairsToldByNobody_41 (tgt := 4) (by decide) ?_
          exact j_pick [0, 1, 2] (ih4 (by omega) _ (by rw [ha2, show j = 8 by omega]; rfl))
        · refine j_aload_n C dX0_pairsToldByNobody_20 rfl ?_
          refine j_iload_n C dX0_pairsToldByNobody_21 rfl ?_
          refine j_iload_n C dX0_pairsToldByNobody_22 rfl ?_
          refine j_callV C (ct_tellersOfPair hb hB hW (by omega) (by omega)) dX0_pairsToldByNobody_23 (cell_B hb) (by have := hb; unfold NN; omega) (T := TX0) rfl gX0_pairsToldByNobody_X0_tellersOfPair rfl kd_X0_tellersOfPair rfl rfl (Nat.le_of_ble_eq_true rfl) ⟨by decide, by decide⟩ ⟨Nat.zero_le _, Nat.zero_le _⟩ (k_I ?_)
          refine j_if_neN C dX0_pairsToldByNobody_26 (tgt := 32) (by decide) (Nat.lt_trans tpm_lt (by decide)) (fun cq26 => ?_) (fun cq26 => ?_)
          · refine j_iincN C dX0_pairsToldByNobody_32 rfl (by decide) ?_
            refine j_goto C dX0_pairsToldByNobody_35 (tgt := 14) (by decide) ?_
            exact ih14 (by omega) _ (by omega) (by first | exact cnt_t ha2 ((nobF_at hij cq17).trans (decide_eq_true cq26)) | exact cnt_f ha2 ((nobF_at hij cq17).trans (decide_eq_false cq26)))
          · refine j_iincN C dX0_pairsToldByNobody_29 rfl (by decide) ?_
            refine j_iincN C dX0_pairsToldByNobody_32 rfl (by decide) ?_
            refine j_goto C dX0_pairsToldByNobody_35 (tgt := 14) (by decide) ?_
            exact ih14 (by omega) _ (by omega) (by first | exact cnt_t ha2 ((nobF_at hij cq17).trans (decide_eq_true cq26)) | exact cnt_f ha2 ((nobF_at hij cq17).trans (decide_eq_false cq26)))
      exact L14 (i + 1) (by omega) _ (by omega) (tri_skip nobF_no ha cq7)
  exact L4 0 (by omega) 0 rfl

set_option maxHeartbeats 4000000 in
set_option maxRecDepth 100000 in
theorem ct_labelled {l : Launch} {G : GG} {M : MM} {b : Nat} {σ : Sg} (hb : b < 9) (hB : Bu M b σ) (hW : Wf σ)  : Ct l G yX0_labelled wsX0_labelled 1 ([.ref (G.2.2 (8 * b))] : List Value) M (rI (nI (labd σ)) M) := by
  refine Ct.of (cc := cX0_labelled) (maxL := 3) (ret := (some .int)) (lv := [(0, .ref (G.2.2 (8 * b)))]) (by decide) rfl rfl (Nat.le_of_ble_eq_true rfl) ?_
  intro pg ev sg mm bl mt cd AZ C hret
  refine j_iconst C dX0_labelled_0 (v := nI 0) (by decide) ?_
  refine j_istore_n C dX0_labelled_1 (by decide) ?_
  refine j_iconst C dX0_labelled_2 (v := nI 0) (by decide) ?_
  refine j_istore_n C dX0_labelled_3 (by decide) ?_
  have L4 : ∀ i, i ≤ 8 → ∀ acc, acc = cntN i (fun p => !decide (lab σ p = 0)) → J G pg l ev (rmD 1) sg mm ([.ref (G.2.2 (8 * b))] : List Value).toArray bl mt cd AZ 3 (MQ bl (QQ G (rI (nI (labd σ)) M) AZ) ([.ref (G.2.2 (8 * b))] : List Value).toArray sg 0 0 AZ) 0 0 4 [(0, .ref (G.2.2 (8 * b))), (1, .int (nI acc)), (2, .int (nI i))] [] (M) := by
    refine dnto ?_
    intro i hi4 ih4 acc ha
    refine j_iload_n C dX0_labelled_4 rfl ?_
    refine j_bipush C dX0_labelled_5 (v := nI 8) (by decide) ?_
    refine j_icmp_geN C dX0_labelled_7 (tgt := 29) (by decide) (by omega) (by omega) (fun cq7 => ?_) (fun cq7 => ?_)
    · refine j_iload_n C dX0_labelled_29 rfl ?_
      exact j_ireturn C hret dX0_labelled_30 ⟨congrArg (fun z => some (Value.int (nI z))) (by rw [ha, show i = 8 by omega]; rfl), rfl⟩
    · obtain ⟨q1, q2, q3, q4⟩ := hW.1 i cq7
      refine j_aload_n C dX0_labelled_10 rfl ?_
      refine j_getf C dX0_labelled_11 (cell_B hb) (by have := hb; unfold NN; omega) (T := TX0) rfl in_X0_labelled_X0 (k := 1) (by decide) fl_X0_labelled_15 rfl rfl ?_
      refine j_iload_n C dX0_labelled_14 rfl ?_
      refine j_ialdN C dX0_labelled_15 (show ilen (8 * b + 2) = some 8 from ilen_B hb (by decide) (by decide)) (by omega) (by decide) ?_
      refine j_top C _ (hB.2.1 _ (by omega)) ?_
      refine j_iconst C dX0_labelled_16 (v := -1) (by decide) ?_
      refine j_icmp_eqO C dX0_labelled_17 (tgt := 23) (by decide) (by omega) (fun cq17 => ?_) (fun cq17 => ?_)
      · refine j_iincN C dX0_labelled_23 rfl (by decide) ?_
        refine j_goto C dX0_labelled_26 (tgt := 4) (by decide) ?_
        exact ih4 (by omega) _ (by first | exact cnt_t ha (by rw [decide_eq_false (show ¬ lab σ i = 0 from cq17)]; rfl) | exact cnt_f ha (by rw [decide_eq_true (show lab σ i = 0 from cq17)]; rfl))
      · refine j_iincN C dX0_labelled_20 rfl (by decide) ?_
        refine j_iincN C dX0_labelled_23 rfl (by decide) ?_
        refine j_goto C dX0_labelled_26 (tgt := 4) (by decide) ?_
        exact ih4 (by omega) _ (by first | exact cnt_t ha (by rw [decide_eq_false (show ¬ lab σ i = 0 from cq17)]; rfl) | exact cnt_f ha (by rw [decide_eq_true (show lab σ i = 0 from cq17)]; rfl))
  exact L4 0 (by omega) 0 rfl

set_option maxHeartbeats 4000000 in
set_option maxRecDepth 100000 in
theorem ct_wrongPairs {l : Launch} {G : GG} {M : MM} {b : Nat} {σ : Sg} (hb : b < 9) (hB : Bu M b σ) (hW : Wf σ) {p : Nat} (hp : p < 4) : Ct l G yX0_wrongPairs wsX0_wrongPairs 5 ([.ref (G.2.2 (8 * b)), .int (nI p)] : List Value) M (rI (nI (wrg σ p)) M) := by
  refine Ct.of (cc := cX0_wrongPairs) (maxL := 5) (ret := (some .int)) (lv := [(0, .ref (G.2.2 (8 * b))), (1, .int (nI p))]) (by decide) rfl rfl (Nat.le_of_ble_eq_true rfl) ?_
  intro pg ev sg mm bl mt cd AZ C hret
  refine j_iconst C dX0_wrongPairs_0 (v := nI 0) (by decide) ?_
  refine j_istore_n C dX0_wrongPairs_1 (by decide) ?_
  refine j_iconst C dX0_wrongPairs_2 (v := nI 0) (by decide) ?_
  refine j_istore_n C dX0_wrongPairs_3 (by decide) ?_
  have L4 : ∀ i, i ≤ 8 → ∀ acc, acc = cntN (8 * i) (wrF σ p) → J G pg l ev (rmD 5) sg mm ([.ref (G.2.2 (8 * b)), .int (nI p)] : List Value).toArray bl mt cd AZ 5 (MQ bl (QQ G (rI (nI (wrg σ p)) M) AZ) ([.ref (G.2.2 (8 * b)), .int (nI p)] : List Value).toArray sg 0 0 AZ) 0 0 4 [(0, .ref (G.2.2 (8 * b))), (1, .int (nI p)), (2, .int (nI acc)), (3, .int (nI i))] [] (M) := by
    refine dnto ?_
    intro i hi4 ih4 acc ha
    refine j_iload_n C dX0_wrongPairs_4 rfl ?_
    refine j_bipush C dX0_wrongPairs_5 (v := nI 8) (by decide) ?_
    refine j_icmp_geN C dX0_wrongPairs_7 (tgt := 74) (by decide) (by omega) (by omega) (fun cq7 => ?_) (fun cq7 => ?_)
    · refine j_iload_n C dX0_wrongPairs_74 rfl ?_
      exact j_ireturn C hret dX0_wrongPairs_75 ⟨congrArg (fun z => some (Value.int (nI z))) (by rw [ha, show i = 8 by omega]; rfl), rfl⟩
    · obtain ⟨q1, q2, q3, q4⟩ := hW.1 i cq7
      refine j_iload_n C dX0_wrongPairs_10 rfl ?_
      refine j_iconst C dX0_wrongPairs_11 (v := nI 1) (by decide) ?_
      refine j_iaddN C dX0_wrongPairs_12 ?_
      refine j_istore C dX0_wrongPairs_13 (by decide) ?_
      have L15 : ∀ j, j ≤ 8 → ∀ acc, i < j → acc = cntN (8 * i + j) (wrF σ p) → J G pg l ev (rmD 5) sg mm ([.ref (G.2.2 (8 * b)), .int (nI p)] : List Value).toArray bl mt cd AZ 5 (MQ bl (QQ G (rI (nI (wrg σ p)) M) AZ) ([.ref (G.2.2 (8 * b)), .int (nI p)] : List Value).toArray sg 0 0 AZ) 0 0 15 [(0, .ref (G.2.2 (8 * b))), (1, .int (nI p)), (2, .int (nI acc)), (3, .int (nI i)), (4, .int (nI j))] [] (M) := by
        refine dnto ?_
        intro j hj15 ih15 acc2 hij ha2
        refine j_iload C dX0_wrongPairs_15 rfl ?_
        refine j_bipush C dX0_wrongPairs_17 (v := nI 8) (by decide) ?_
        refine j_icmp_geN C dX0_wrongPairs_19 (tgt := 68) (by decide) (by omega) (by omega) (fun cq19 => ?_) (fun cq19 => ?_)
        · refine j_iincN C dX0_wrongPairs_68 rfl (by decide) ?_
          refine j_goto C dX0_wrongPairs_71 (tgt := 4) (by decide) ?_
          exact j_pick [0, 1, 2, 3] (ih4 (by omega) _ (by rw [ha2, show j = 8 by omega]; rfl))
        · obtain ⟨r1, r2, r3, r4⟩ := hW.1 j cq19
          refine j_aload_n C dX0_wrongPairs_22 rfl ?_
          refine j_getf C dX0_wrongPairs_23 (cell_B hb) (by have := hb; unfold NN; omega) (T := TX0) rfl in_X0_wrongPairs_X0 (k := 1) (by decide) fl_X0_wrongPairs_15 rfl rfl ?_
          refine j_iload_n C dX0_wrongPairs_26 rfl ?_
          refine j_ialdN C dX0_wrongPairs_27 (show ilen (8 * b + 2) = some 8 from ilen_B hb (by decide) (by decide)) (by omega) (by decide) ?_
          refine j_top C _ (hB.2.1 _ (by omega)) ?_
          refine j_iconst C dX0_wrongPairs_28 (v := -1) (by decide) ?_
          refine j_icmp_eqO C dX0_wrongPairs_29 (tgt := 62) (by decide) (by omega) (fun cq29 => ?_) (fun cq29 => ?_)
          · refine j_iincN C dX0_wrongPairs_62 rfl (by decide) ?_
            refine j_goto C dX0_wrongPairs_65 (tgt := 15) (by decide) ?_
            exact ih15 (by omega) _ (by omega) (by first | exact cnt_t ha2 ((wrF_at hij cq19).trans (by rw [decide_eq_false (show ¬ lab σ i = 0 from cq29), decide_eq_true (show lab σ i = lab σ j from cq45), cq56]; rfl)) | exact cnt_f ha2 ((wrF_at hij cq19).trans (by first | (rw [decide_eq_true (show lab σ i = 0 from cq29)]; rfl) | (rw [decide_eq_false (show ¬ lab σ i = lab σ j from cq45), Bool.false_and, Bool.and_false]) | (rw [cq56, Bool.and_false, Bool.and_false]))))
          · refine j_aload_n C dX0_wrongPairs_32 rfl ?_
            refine j_getf C dX0_wrongPairs_33 (cell_B hb) (by have := hb; unfold NN; omega) (T := TX0) rfl in_X0_wrongPairs_X0 (k := 1) (by decide) fl_X0_wrongPairs_15 rfl rfl ?_
            refine j_iload_n C dX0_wrongPairs_36 rfl ?_
            refine j_ialdN C dX0_wrongPairs_37 (show ilen (8 * b + 2) = some 8 from ilen_B hb (by decide) (by decide)) (by omega) (by decide) ?_
            refine j_top C _ (hB.2.1 _ (by omega)) ?_
            refine j_aload_n C dX0_wrongPairs_38 rfl ?_
            refine j_getf C dX0_wrongPairs_39 (cell_B hb) (by have := hb; unfold NN; omega) (T := TX0) rfl in_X0_wrongPairs_X0 (k := 1) (by decide) fl_X0_wrongPairs_15 rfl rfl ?_
            refine j_iload C dX0_wrongPairs_42 rfl ?_
            refine j_ialdN C dX0_wrongPairs_44 (show ilen (8 * b + 2) = some 8 from ilen_B hb (by decide) (by decide)) (by omega) (by decide) ?_
            refine j_top C _ (hB.2.1 _ (by omega)) ?_
            refine j_icmp_neOO C dX0_wrongPairs_45 (tgt := 62) (by decide) (by omega) (by omega) (fun cq45 => ?_) (fun cq45 => ?_)
            · refine j_iincN C dX0_wrongPairs_62 rfl (by decide) ?_
              refine j_goto C dX0_wrongPairs_65 (tgt := 15) (by decide) ?_
              exact ih15 (by omega) _ (by omega) (by first | exact cnt_t ha2 ((wrF_at hij cq19).trans (by rw [decide_eq_false (show ¬ lab σ i = 0 from cq29), decide_eq_true (show lab σ i = lab σ j from cq45), cq56]; rfl)) | exact cnt_f ha2 ((wrF_at hij cq19).trans (by first | (rw [decide_eq_true (show lab σ i = 0 from cq29)]; rfl) | (rw [decide_eq_false (show ¬ lab σ i = lab σ j from cq45), Bool.false_and, Bool.and_false]) | (rw [cq56, Bool.and_false, Bool.and_false]))))
            · refine j_aload_n C dX0_wrongPairs_48 rfl ?_
              refine j_iload_n C dX0_wrongPairs_49 rfl ?_
              refine j_iload_n C dX0_wrongPairs_50 rfl ?_
              refine j_iload C dX0_wrongPairs_51 rfl ?_
              refine j_callV C (ct_tells hb hB hW (by omega) (by omega) (by omega)) dX0_wrongPairs_53 (cell_B hb) (by have := hb; unfold NN; omega) (T := TX0) rfl gX0_wrongPairs_X0_tells rfl kd_X0_tells rfl rfl (Nat.le_of_ble_eq_true rfl) ⟨by decide, by decide⟩ ⟨Nat.zero_le _, Nat.zero_le _⟩ (k_I ?_)
              refine j_if_eqB C dX0_wrongPairs_56 (tgt := 62) (by decide) (fun cq56 => ?_) (fun cq56 => ?_)
              · refine j_iincN C dX0_wrongPairs_62 rfl (by decide) ?_
                refine j_goto C dX0_wrongPairs_65 (tgt := 15) (by decide) ?_
                exact ih15 (by omega) _ (by omega) (by first | exact cnt_t ha2 ((wrF_at hij cq19).trans (by rw [decide_eq_false (show ¬ lab σ i = 0 from cq29), decide_eq_true (show lab σ i = lab σ j from cq45), cq56]; rfl)) | exact cnt_f ha2 ((wrF_at hij cq19).trans (by first | (rw [decide_eq_true (show lab σ i = 0 from cq29)]; rfl) | (rw [decide_eq_false (show ¬ lab σ i = lab σ j from cq45), Bool.false_and, Bool.and_false]) | (rw [cq56, Bool.and_false, Bool.and_false]))))
              · refine j_iincN C dX0_wrongPairs_59 rfl (by decide) ?_
                refine j_iincN C dX0_wrongPairs_62 rfl (by decide) ?_
                refine j_goto C dX0_wrongPairs_65 (tgt := 15) (by decide) ?_
                exact ih15 (by omega) _ (by omega) (by first | exact cnt_t ha2 ((wrF_at hij cq19).trans (by rw [decide_eq_false (show ¬ lab σ i = 0 from cq29), decide_eq_true (show lab σ i = lab σ j from cq45), cq56]; rfl)) | exact cnt_f ha2 ((wrF_at hij cq19).trans (by first | (rw [decide_eq_true (show lab σ i = 0 from cq29)]; rfl) | (rw [decide_eq_false (show ¬ lab σ i = lab σ j from cq45), Bool.false_and, Bool.and_false]) | (rw [cq56, Bool.and_false, Bool.and_false]))))
      exact L15 (i + 1) (by omega) _ (by omega) (tri_skip wrF_no ha cq7)
  exact L4 0 (by omega) 0 rfl

set_option maxHeartbeats 4000000 in
set_option maxRecDepth 100000 in
theorem ct_paintersServed {l : Launch} {G : GG} {M : MM} {b : Nat} {σ : Sg} (hb : b < 9) (hB : Bu M b σ) (hW : Wf σ)  : Ct l G yX0_paintersServed wsX0_paintersServed 6 ([.ref (G.2.2 (8 * b))] : List Value) M (rI (nI (srv σ)) M) := by
  refine Ct.of (cc := cX0_paintersServed) (maxL := 3) (ret := (some .int)) (lv := [(0, .ref (G.2.2 (8 * b)))]) (by decide) rfl rfl (Nat.le_of_ble_eq_true rfl) ?_
  intro pg ev sg mm bl mt cd AZ C hret
  refine j_iconst C dX0_paintersServed_0 (v := nI 0) (by decide) ?_
  refine j_istore_n C dX0_paintersServed_1 (by decide) ?_
  refine j_iconst C dX0_paintersServed_2 (v := nI 0) (by decide) ?_
  refine j_istore_n C dX0_paintersServed_3 (by decide) ?_
  have L4 : ∀ i, i ≤ 4 → ∀ acc, acc = cntN i (fun p => decide (wrg σ p = 0)) → J G pg l ev (rmD 6) sg mm ([.ref (G.2.2 (8 * b))] : List Value).toArray bl mt cd AZ 3 (MQ bl (QQ G (rI (nI (srv σ)) M) AZ) ([.ref (G.2.2 (8 * b))] : List Value).toArray sg 0 0 AZ) 0 0 4 [(0, .ref (G.2.2 (8 * b))), (1, .int (nI acc)), (2, .int (nI i))] [] (M) := by
    refine dnto ?_
    intro i hi4 ih4 acc ha
    refine j_iload_n C dX0_paintersServed_4 rfl ?_
    refine j_iconst C dX0_paintersServed_5 (v := nI 4) (by decide) ?_
    refine j_icmp_geN C dX0_paintersServed_6 (tgt := 26) (by decide) (by omega) (by omega) (fun cq6 => ?_) (fun cq6 => ?_)
    · refine j_iload_n C dX0_paintersServed_26 rfl ?_
      exact j_ireturn C hret dX0_paintersServed_27 ⟨congrArg (fun z => some (Value.int (nI z))) (by rw [ha, show i = 4 by omega]; rfl), rfl⟩
    · refine j_aload_n C dX0_paintersServed_9 rfl ?_
      refine j_iload_n C dX0_paintersServed_10 rfl ?_
      refine j_callV C (ct_wrongPairs hb hB hW (by omega)) dX0_paintersServed_11 (cell_B hb) (by have := hb; unfold NN; omega) (T := TX0) rfl gX0_paintersServed_X0_wrongPairs rfl kd_X0_wrongPairs rfl rfl (Nat.le_of_ble_eq_true rfl) ⟨by decide, by decide⟩ ⟨Nat.zero_le _, Nat.zero_le _⟩ (k_I ?_)
      refine j_if_neN C dX0_paintersServed_14 (tgt := 20) (by decide) (Nat.lt_of_le_of_lt (cntN_le _ 64) (by decide)) (fun cq14 => ?_) (fun cq14 => ?_)
      · refine j_iincN C dX0_paintersServed_20 rfl (by decide) ?_
        refine j_goto C dX0_paintersServed_23 (tgt := 4) (by decide) ?_
        exact ih4 (by omega) _ (by first | exact cnt_t ha (decide_eq_true cq14) | exact cnt_f ha (decide_eq_false cq14))
      · refine j_iincN C dX0_paintersServed_17 rfl (by decide) ?_
        refine j_iincN C dX0_paintersServed_20 rfl (by decide) ?_
        refine j_goto C dX0_paintersServed_23 (tgt := 4) (by decide) ?_
        exact ih4 (by omega) _ (by first | exact cnt_t ha (decide_eq_true cq14) | exact cnt_f ha (decide_eq_false cq14))
  exact L4 0 (by omega) 0 rfl

set_option maxHeartbeats 4000000 in
set_option maxRecDepth 100000 in
theorem ct_readersOf {l : Launch} {G : GG} {M : MM} {b : Nat} {σ : Sg} (hb : b < 9) (hB : Bu M b σ) (hW : Wf σ) {ch : Nat} (hc : ch < 6) : Ct l G yX0_readersOf wsX0_readersOf 5 ([.ref (G.2.2 (8 * b)), .int (nI ch)] : List Value) M (rI (nI (rdm σ ch)) M) := by
  obtain ⟨q1, q2⟩ := hW.2.2.2 ch hc
  refine Ct.of (cc := cX0_readersOf) (maxL := 2) (ret := (some .int)) (lv := [(0, .ref (G.2.2 (8 * b))), (1, .int (nI ch))]) (by decide) rfl rfl (Nat.le_of_ble_eq_true rfl) ?_
  intro pg ev sg mm bl mt cd AZ C hret
  refine j_aload_n C dX0_readersOf_0 rfl ?_
  refine j_aload_n C dX0_readersOf_1 rfl ?_
  refine j_getf C dX0_readersOf_2 (cell_B hb) (by have := hb; unfold NN; omega) (T := TX0) rfl in_X0_readersOf_X0 (k := 5) (by decide) fl_X0_readersOf_27 rfl rfl ?_
  refine j_iload_n C dX0_readersOf_5 rfl ?_
  refine j_ialdN C dX0_readersOf_6 (show ilen (8 * b + 6) = some 6 from ilen_B hb (by decide) (by decide)) (by omega) (by decide) ?_
  refine j_top C _ (hB.2.2.2.2.2.1 _ (by omega)) ?_
  refine j_aload_n C dX0_readersOf_7 rfl ?_
  refine j_getf C dX0_readersOf_8 (cell_B hb) (by have := hb; unfold NN; omega) (T := TX0) rfl in_X0_readersOf_X0 (k := 6) (by decide) fl_X0_readersOf_30 rfl rfl ?_
  refine j_iload_n C dX0_readersOf_11 rfl ?_
  refine j_ialdN C dX0_readersOf_12 (show ilen (8 * b + 7) = some 6 from ilen_B hb (by decide) (by decide)) (by omega) (by decide) ?_
  refine j_top C _ (hB.2.2.2.2.2.2.1 _ (by omega)) ?_
  refine j_callV C (ct_tellersOfPair hb hB hW (by omega) (by omega)) dX0_readersOf_13 (cell_B hb) (by have := hb; unfold NN; omega) (T := TX0) rfl gX0_readersOf_X0_tellersOfPair rfl kd_X0_tellersOfPair rfl rfl (Nat.le_of_ble_eq_true rfl) ⟨by decide, by decide⟩ ⟨Nat.zero_le _, Nat.zero_le _⟩ (k_I ?_)
  exact j_ireturn C hret dX0_readersOf_16 ⟨rfl, rfl⟩

set_option maxHeartbeats 4000000 in
set_option maxRecDepth 100000 in
theorem ct_chartsRead {l : Launch} {G : GG} {M : MM} {b : Nat} {σ : Sg} (hb : b < 9) (hB : Bu M b σ) (hW : Wf σ) {p : Nat} (hp : p < 4) : Ct l G yX0_chartsRead wsX0_chartsRead 5 ([.ref (G.2.2 (8 * b)), .int (nI p)] : List Value) M (rI (nI (crd σ p)) M) := by
  have h44 := hW.2.2.1
  refine Ct.of (cc := cX0_chartsRead) (maxL := 4) (ret := (some .int)) (lv := [(0, .ref (G.2.2 (8 * b))), (1, .int (nI p))]) (by decide) rfl rfl (Nat.le_of_ble_eq_true rfl) ?_
  intro pg ev sg mm bl mt cd AZ C hret
  refine j_iconst C dX0_chartsRead_0 (v := nI 0) (by decide) ?_
  refine j_istore_n C dX0_chartsRead_1 (by decide) ?_
  refine j_iconst C dX0_chartsRead_2 (v := nI 0) (by decide) ?_
  refine j_istore_n C dX0_chartsRead_3 (by decide) ?_
  have L4 : ∀ i, i ≤ σ 44 → ∀ acc, acc = cntN i (crF σ p) → J G pg l ev (rmD 5) sg mm ([.ref (G.2.2 (8 * b)), .int (nI p)] : List Value).toArray bl mt cd AZ 4 (MQ bl (QQ G (rI (nI (crd σ p)) M) AZ) ([.ref (G.2.2 (8 * b)), .int (nI p)] : List Value).toArray sg 0 0 AZ) 0 0 4 [(0, .ref (G.2.2 (8 * b))), (1, .int (nI p)), (2, .int (nI acc)), (3, .int (nI i))] [] (M) := by
    refine dnto ?_
    intro i hi4 ih4 acc ha
    refine j_iload_n C dX0_chartsRead_4 rfl ?_
    refine j_aload_n C dX0_chartsRead_5 rfl ?_
    refine j_getf C dX0_chartsRead_6 (cell_B hb) (by have := hb; unfold NN; omega) (T := TX0) rfl in_X0_chartsRead_X0 (k := 7) (by decide) fl_X0_chartsRead_39 rfl rfl ?_
    refine j_top C (_) hB.2.2.2.2.2.2.2.1 ?_
    refine j_icmp_geN C dX0_chartsRead_9 (tgt := 41) (by decide) (by omega) (by omega) (fun cq9 => ?_) (fun cq9 => ?_)
    · refine j_iload_n C dX0_chartsRead_41 rfl ?_
      exact j_ireturn C hret dX0_chartsRead_42 ⟨congrArg (fun z => some (Value.int (nI z))) (by rw [ha, show i = σ 44 by omega]; rfl), rfl⟩
    · obtain ⟨q1, q2⟩ := hW.2.2.2 i (by omega)
      refine j_aload_n C dX0_chartsRead_12 rfl ?_
      refine j_iload_n C dX0_chartsRead_13 rfl ?_
      refine j_aload_n C dX0_chartsRead_14 rfl ?_
      refine j_getf C dX0_chartsRead_15 (cell_B hb) (by have := hb; unfold NN; omega) (T := TX0) rfl in_X0_chartsRead_X0 (k := 5) (by decide) fl_X0_chartsRead_27 rfl rfl ?_
      refine j_iload_n C dX0_chartsRead_18 rfl ?_
      refine j_ialdN C dX0_chartsRead_19 (show ilen (8 * b + 6) = some 6 from ilen_B hb (by decide) (by decide)) (by omega) (by decide) ?_
      refine j_top C _ (hB.2.2.2.2.2.1 _ (by omega)) ?_
      refine j_aload_n C dX0_chartsRead_20 rfl ?_
      refine j_getf C dX0_chartsRead_21 (cell_B hb) (by have := hb; unfold NN; omega) (T := TX0) rfl in_X0_chartsRead_X0 (k := 6) (by decide) fl_X0_chartsRead_30 rfl rfl ?_
      refine j_iload_n C dX0_chartsRead_24 rfl ?_
      refine j_ialdN C dX0_chartsRead_25 (show ilen (8 * b + 7) = some 6 from ilen_B hb (by decide) (by decide)) (by omega) (by decide) ?_
      refine j_top C _ (hB.2.2.2.2.2.2.1 _ (by omega)) ?_
      refine j_callV C (ct_tells hb hB hW (by omega) (by omega) (by omega)) dX0_chartsRead_26 (cell_B hb) (by have := hb; unfold NN; omega) (T := TX0) rfl gX0_chartsRead_X0_tells rfl kd_X0_tells rfl rfl (Nat.le_of_ble_eq_true rfl) ⟨by decide, by decide⟩ ⟨Nat.zero_le _, Nat.zero_le _⟩ (k_I ?_)
      refine j_if_eqB C dX0_chartsRead_29 (tgt := 35) (by decide) (fun cq29 => ?_) (fun cq29 => ?_)
      · refine j_iincN C dX0_chartsRead_35 rfl (by decide) ?_
        refine j_goto C dX0_chartsRead_38 (tgt := 4) (by decide) ?_
        exact ih4 (by omega) _ (by first | exact cnt_t ha cq29 | exact cnt_f ha cq29)
      · refine j_iincN C dX0_chartsRead_32 rfl (by decide) ?_
        refine j_iincN C dX0_chartsRead_35 rfl (by decide) ?_
        refine j_goto C dX0_chartsRead_38 (tgt := 4) (by decide) ?_
        exact ih4 (by omega) _ (by first | exact cnt_t ha cq29 | exact cnt_f ha cq29)
  exact L4 0 (by omega) 0 rfl
