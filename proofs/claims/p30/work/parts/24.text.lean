set_option maxRecDepth 20000 in
theorem in_X4_isFull_X4 : ∀ w ∈ wsX40, w ∈ wsX4_isFull := by decide +kernel
set_option maxRecDepth 20000 in
theorem fl_X4_isFull_15 : Cond.fieldLink RX4 15 "PotLabels$Text" "length" "I" ∈ wsX4_isFull := by decide +kernel
set_option maxRecDepth 20000 in
theorem in_X4_add_X4 : ∀ w ∈ wsX40, w ∈ wsX4_add := by decide +kernel
set_option maxRecDepth 20000 in
theorem fl_X4_add_15 : Cond.fieldLink RX4 15 "PotLabels$Text" "length" "I" ∈ wsX4_add := by decide +kernel
set_option maxRecDepth 20000 in
theorem fl_X4_add_9 : Cond.fieldLink RX4 9 "PotLabels$Text" "codes" "[I" ∈ wsX4_add := by decide +kernel
set_option maxRecDepth 20000 in
theorem in_X4_clear_X4 : ∀ w ∈ wsX40, w ∈ wsX4_clear := by decide +kernel
set_option maxRecDepth 20000 in
theorem fl_X4_clear_15 : Cond.fieldLink RX4 15 "PotLabels$Text" "length" "I" ∈ wsX4_clear := by decide +kernel
set_option maxRecDepth 20000 in
theorem in_X4_firstWrong_X4 : ∀ w ∈ wsX40, w ∈ wsX4_firstWrong := by decide +kernel
set_option maxRecDepth 20000 in
theorem fl_X4_firstWrong_15 : Cond.fieldLink RX4 15 "PotLabels$Text" "length" "I" ∈ wsX4_firstWrong := by decide +kernel
set_option maxRecDepth 20000 in
theorem fl_X4_firstWrong_9 : Cond.fieldLink RX4 9 "PotLabels$Text" "codes" "[I" ∈ wsX4_firstWrong := by decide +kernel
set_option maxRecDepth 20000 in
theorem ks_X4_fits : yX4_fits.cls ≠ "java/lang/invoke/MethodHandle" ∧ yX4_fits.cls ≠ "java/lang/invoke/VarHandle" ∧ (parseMethodDescriptor yX4_fits.desc).map (fun d => d.parameters.length) = some 2 := by decide +kernel
set_option maxRecDepth 20000 in
theorem in_X4_tellsPots_X4 : ∀ w ∈ wsX40, w ∈ wsX4_tellsPots := by decide +kernel
set_option maxRecDepth 20000 in
theorem fl_X4_tellsPots_15 : Cond.fieldLink RX4 15 "PotLabels$Text" "length" "I" ∈ wsX4_tellsPots := by decide +kernel
set_option maxRecDepth 20000 in
theorem kd_X4_firstWrong : yX4_firstWrong.cls = RX4 ∧ yX4_firstWrong.cls ≠ "java/lang/invoke/MethodHandle" ∧ yX4_firstWrong.cls ≠ "java/lang/invoke/VarHandle" ∧ (parseMethodDescriptor yX4_firstWrong.desc).map (fun d => d.parameters.length) = some 0 := by decide +kernel
set_option maxRecDepth 20000 in
theorem in_X4_giveColours_X4 : ∀ w ∈ wsX40, w ∈ wsX4_giveColours := by decide +kernel
set_option maxRecDepth 20000 in
theorem fl_X4_giveColours_15 : Cond.fieldLink RX4 15 "PotLabels$Text" "length" "I" ∈ wsX4_giveColours := by decide +kernel
set_option maxRecDepth 20000 in
theorem fl_X4_giveColours_9 : Cond.fieldLink RX4 9 "PotLabels$Text" "codes" "[I" ∈ wsX4_giveColours := by decide +kernel
set_option maxRecDepth 20000 in
theorem in_X4_giveColours_X0 : ∀ w ∈ wsX00, w ∈ wsX4_giveColours := by decide +kernel
set_option maxRecDepth 20000 in
theorem nl_X4_27 : Cond.fieldLinkNest "PotLabels$Text" 27 "PotLabels$Bureau" "colours" "[I" "PotLabels" ∈ nestF := by decide +kernel
set_option maxHeartbeats 4000000 in
set_option maxRecDepth 100000 in
theorem ct_isFull {l : Launch} {G : GG} {M : MM} {n : Nat} {f : Nat → Nat} (hT : Tx M n f) : Ct l G yX4_isFull wsX4_isFull 1 ([.ref (G.2.2 77)] : List Value) M (rI (bI (decide (60 ≤ n))) M) := by
  have h60 := hT.1
  refine Ct.of (cc := cX4_isFull) (maxL := 1) (ret := (some .boolean)) (lv := [(0, .ref (G.2.2 77))]) (by decide) rfl rfl (Nat.le_of_ble_eq_true rfl) ?_
  intro pg ev sg mm bl mt cd AZ C hret
  refine j_aload_n C dX4_isFull_0 rfl ?_
  refine j_getf C dX4_isFull_1 rfl (by decide) (T := TX4) rfl in_X4_isFull_X4 (k := 1) (by decide) fl_X4_isFull_15 rfl rfl ?_
  refine j_top C (_) hT.2.1 ?_
  refine j_bipush C dX4_isFull_4 (v := nI 60) (by decide) ?_
  refine j_icmp_ltN C dX4_isFull_6 (tgt := 13) (by decide) (by omega) (by omega) (fun cq6 => ?_) (fun cq6 => ?_)
  · refine j_iconst C dX4_isFull_13 (v := nI 0) (by decide) ?_
    refine j_top C (bI (decide (60 ≤ n))) (by rw [decide_eq_false (Nat.not_le.mpr cq6)]; rfl) ?_
    exact j_zreturn C hret dX4_isFull_14 ⟨rfl, rfl⟩
  · refine j_iconst C dX4_isFull_9 (v := nI 1) (by decide) ?_
    refine j_top C (bI (decide (60 ≤ n))) (by rw [decide_eq_true cq6]; rfl) ?_
    refine j_goto C dX4_isFull_10 (tgt := 14) (by decide) ?_
    exact j_zreturn C hret dX4_isFull_14 ⟨rfl, rfl⟩

set_option maxHeartbeats 4000000 in
set_option maxRecDepth 100000 in
theorem ct_add {l : Launch} {G : GG} {M : MM} {n : Nat} {f : Nat → Nat} (hT : Tx M n f) {c9 : Nat} (hn : n < 60) : Ct l G yX4_add wsX4_add 1 ([.ref (G.2.2 77), .int (nI c9)] : List Value) M (rV (setV (setR M 78 n (nI c9)) 77 1 (nI (n + 1)))) := by
  have h60 := hT.1
  refine Ct.of (cc := cX4_add) (maxL := 2) (ret := none) (lv := [(0, .ref (G.2.2 77)), (1, .int (nI c9))]) (by decide) rfl rfl (Nat.le_of_ble_eq_true rfl) ?_
  intro pg ev sg mm bl mt cd AZ C hret
  refine j_aload_n C dX4_add_0 rfl ?_
  refine j_getf C dX4_add_1 rfl (by decide) (T := TX4) rfl in_X4_add_X4 (k := 1) (by decide) fl_X4_add_15 rfl rfl ?_
  refine j_top C (_) hT.2.1 ?_
  refine j_bipush C dX4_add_4 (v := nI 60) (by decide) ?_
  refine j_icmp_geN C dX4_add_6 (tgt := 29) (by decide) (by omega) (by omega) (fun cq6 => absurd cq6 (by omega)) (fun cq6 => ?_)
  refine j_aload_n C dX4_add_9 rfl ?_
  refine j_getf C dX4_add_10 rfl (by decide) (T := TX4) rfl in_X4_add_X4 (k := 0) (by decide) fl_X4_add_9 rfl rfl ?_
  refine j_aload_n C dX4_add_13 rfl ?_
  refine j_getf C dX4_add_14 rfl (by decide) (T := TX4) rfl in_X4_add_X4 (k := 1) (by decide) fl_X4_add_15 rfl rfl ?_
  refine j_top C (_) hT.2.1 ?_
  refine j_iload_n C dX4_add_17 rfl ?_
  refine j_iastN C dX4_add_18 (show ilen 78 = some 60 from rfl) (by omega) (by decide) ?_
  refine j_aload_n C dX4_add_19 rfl ?_
  refine j_dup C dX4_add_20 rfl ?_
  refine j_getf C dX4_add_21 rfl (by decide) (T := TX4) rfl in_X4_add_X4 (k := 1) (by decide) fl_X4_add_15 rfl rfl ?_
  refine j_top C (_) hT.2.1 ?_
  refine j_iconst C dX4_add_24 (v := nI 1) (by decide) ?_
  refine j_iaddN C dX4_add_25 ?_
  refine j_putf C dX4_add_26 rfl (by decide) (T := TX4) rfl in_X4_add_X4 tyX4 tyX4_ok nmX4 (k := 1) (by decide) fl_X4_add_15 rfl rfl (by decide +kernel) (Nat.le_of_ble_eq_true rfl) rfl ?_
  exact j_return C hret dX4_add_29 ⟨rfl, rfl⟩

set_option maxHeartbeats 4000000 in
set_option maxRecDepth 100000 in
theorem ct_clear {l : Launch} {G : GG} {M : MM}  : Ct l G yX4_clear wsX4_clear 1 ([.ref (G.2.2 77)] : List Value) M (rV (setV M 77 1 (nI 0))) := by
  refine Ct.of (cc := cX4_clear) (maxL := 1) (ret := none) (lv := [(0, .ref (G.2.2 77))]) (by decide) rfl rfl (Nat.le_of_ble_eq_true rfl) ?_
  intro pg ev sg mm bl mt cd AZ C hret
  refine j_aload_n C dX4_clear_0 rfl ?_
  refine j_iconst C dX4_clear_1 (v := nI 0) (by decide) ?_
  refine j_putf C dX4_clear_2 rfl (by decide) (T := TX4) rfl in_X4_clear_X4 tyX4 tyX4_ok nmX4 (k := 1) (by decide) fl_X4_clear_15 rfl rfl (by decide +kernel) (Nat.le_of_ble_eq_true rfl) rfl ?_
  exact j_return C hret dX4_clear_5 ⟨rfl, rfl⟩

set_option maxHeartbeats 4000000 in
set_option maxRecDepth 100000 in
theorem ct_fits_0 {l : Launch} {G : GG} {M : MM} {a : Nat} (ha : a ≤ 126) : Ct l G yX4_fits wsX4_fits 1 ([.int (nI 0), .int (nI a)] : List Value) M (rI (bI (fitB 0 a)) M) := by
  refine Ct.of (cc := cX4_fits) (maxL := 2) (ret := (some .boolean)) (lv := [(0, .int (nI 0)), (1, .int (nI a))]) (by decide) rfl rfl (Nat.le_of_ble_eq_true rfl) ?_
  intro pg ev sg mm bl mt cd AZ C hret
  refine j_iload_n C dX4_fits_0 rfl ?_
  refine j_lookup C dX4_fits_1 (off := 35) (tgt := 36) (by decide) (by decide) (by decide) ?_
  refine j_iload_n C dX4_fits_36 rfl ?_
  refine j_bipush C dX4_fits_37 (v := nI 48) (by decide) ?_
  refine j_icmp_ltN C dX4_fits_39 (tgt := 52) (by decide) (by omega) (by omega) (fun cq39 => ?_) (fun cq39 => ?_)
  · refine j_iconst C dX4_fits_52 (v := nI 0) (by decide) ?_
    refine j_top C (bI (fitB 0 a)) (show nI 0 = bI (decide _) from by rw [decide_eq_false (by omega)]; rfl) ?_
    exact j_zreturn C hret dX4_fits_53 ⟨rfl, rfl⟩
  · refine j_iload_n C dX4_fits_42 rfl ?_
    refine j_bipush C dX4_fits_43 (v := nI 56) (by decide) ?_
    refine j_icmp_geN C dX4_fits_45 (tgt := 52) (by decide) (by omega) (by omega) (fun cq45 => ?_) (fun cq45 => ?_)
    · refine j_iconst C dX4_fits_52 (v := nI 0) (by decide) ?_
      refine j_top C (bI (fitB 0 a)) (show nI 0 = bI (decide _) from by rw [decide_eq_false (by omega)]; rfl) ?_
      exact j_zreturn C hret dX4_fits_53 ⟨rfl, rfl⟩
    · refine j_iconst C dX4_fits_48 (v := nI 1) (by decide) ?_
      refine j_top C (bI (fitB 0 a)) (show nI 1 = bI (decide _) from by rw [decide_eq_true (by omega)]; rfl) ?_
      refine j_goto C dX4_fits_49 (tgt := 53) (by decide) ?_
      exact j_zreturn C hret dX4_fits_53 ⟨rfl, rfl⟩

set_option maxHeartbeats 4000000 in
set_option maxRecDepth 100000 in
theorem ct_fits_1 {l : Launch} {G : GG} {M : MM} {a : Nat} (ha : a ≤ 126) : Ct l G yX4_fits wsX4_fits 1 ([.int (nI 1), .int (nI a)] : List Value) M (rI (bI (fitB 1 a)) M) := by
  refine Ct.of (cc := cX4_fits) (maxL := 2) (ret := (some .boolean)) (lv := [(0, .int (nI 1)), (1, .int (nI a))]) (by decide) rfl rfl (Nat.le_of_ble_eq_true rfl) ?_
  intro pg ev sg mm bl mt cd AZ C hret
  refine j_iload_n C dX4_fits_0 rfl ?_
  refine j_lookup C dX4_fits_1 (off := 53) (tgt := 54) (by decide) (by decide) (by decide) ?_
  refine j_iload_n C dX4_fits_54 rfl ?_
  refine j_bipush C dX4_fits_55 (v := nI 61) (by decide) ?_
  refine j_icmp_neN C dX4_fits_57 (tgt := 64) (by decide) (by omega) (by omega) (fun cq57 => ?_) (fun cq57 => ?_)
  · refine j_iconst C dX4_fits_64 (v := nI 0) (by decide) ?_
    refine j_top C (bI (fitB 1 a)) (show nI 0 = bI (decide _) from by rw [decide_eq_false (by omega)]; rfl) ?_
    exact j_zreturn C hret dX4_fits_65 ⟨rfl, rfl⟩
  · refine j_iconst C dX4_fits_60 (v := nI 1) (by decide) ?_
    refine j_top C (bI (fitB 1 a)) (show nI 1 = bI (decide _) from by rw [decide_eq_true (by omega)]; rfl) ?_
    refine j_goto C dX4_fits_61 (tgt := 65) (by decide) ?_
    exact j_zreturn C hret dX4_fits_65 ⟨rfl, rfl⟩

set_option maxHeartbeats 4000000 in
set_option maxRecDepth 100000 in
theorem ct_fits_2 {l : Launch} {G : GG} {M : MM} {a : Nat} (ha : a ≤ 126) : Ct l G yX4_fits wsX4_fits 1 ([.int (nI 2), .int (nI a)] : List Value) M (rI (bI (fitB 2 a)) M) := by
  refine Ct.of (cc := cX4_fits) (maxL := 2) (ret := (some .boolean)) (lv := [(0, .int (nI 2)), (1, .int (nI a))]) (by decide) rfl rfl (Nat.le_of_ble_eq_true rfl) ?_
  intro pg ev sg mm bl mt cd AZ C hret
  refine j_iload_n C dX4_fits_0 rfl ?_
  refine j_lookup C dX4_fits_1 (off := 77) (tgt := 78) (by decide) (by decide) (by decide) ?_
  refine j_iload_n C dX4_fits_78 rfl ?_
  refine j_bipush C dX4_fits_79 (v := nI 48) (by decide) ?_
  refine j_icmp_ltN C dX4_fits_81 (tgt := 94) (by decide) (by omega) (by omega) (fun cq81 => ?_) (fun cq81 => ?_)
  · refine j_iconst C dX4_fits_94 (v := nI 0) (by decide) ?_
    refine j_top C (bI (fitB 2 a)) (show nI 0 = bI (decide _) from by rw [decide_eq_false (by omega)]; rfl) ?_
    exact j_zreturn C hret dX4_fits_95 ⟨rfl, rfl⟩
  · refine j_iload_n C dX4_fits_84 rfl ?_
    refine j_bipush C dX4_fits_85 (v := nI 57) (by decide) ?_
    refine j_icmp_gtN C dX4_fits_87 (tgt := 94) (by decide) (by omega) (by omega) (fun cq87 => ?_) (fun cq87 => ?_)
    · refine j_iconst C dX4_fits_94 (v := nI 0) (by decide) ?_
      refine j_top C (bI (fitB 2 a)) (show nI 0 = bI (decide _) from by rw [decide_eq_false (by omega)]; rfl) ?_
      exact j_zreturn C hret dX4_fits_95 ⟨rfl, rfl⟩
    · refine j_iconst C dX4_fits_90 (v := nI 1) (by decide) ?_
      refine j_top C (bI (fitB 2 a)) (show nI 1 = bI (decide _) from by rw [decide_eq_true (by omega)]; rfl) ?_
      refine j_goto C dX4_fits_91 (tgt := 95) (by decide) ?_
      exact j_zreturn C hret dX4_fits_95 ⟨rfl, rfl⟩

set_option maxHeartbeats 4000000 in
set_option maxRecDepth 100000 in
theorem ct_fits_3 {l : Launch} {G : GG} {M : MM} {a : Nat} (ha : a ≤ 126) : Ct l G yX4_fits wsX4_fits 1 ([.int (nI 3), .int (nI a)] : List Value) M (rI (bI (fitB 3 a)) M) := by
  refine Ct.of (cc := cX4_fits) (maxL := 2) (ret := (some .boolean)) (lv := [(0, .int (nI 3)), (1, .int (nI a))]) (by decide) rfl rfl (Nat.le_of_ble_eq_true rfl) ?_
  intro pg ev sg mm bl mt cd AZ C hret
  refine j_iload_n C dX4_fits_0 rfl ?_
  refine j_lookup C dX4_fits_1 (off := 77) (tgt := 78) (by decide) (by decide) (by decide) ?_
  refine j_iload_n C dX4_fits_78 rfl ?_
  refine j_bipush C dX4_fits_79 (v := nI 48) (by decide) ?_
  refine j_icmp_ltN C dX4_fits_81 (tgt := 94) (by decide) (by omega) (by omega) (fun cq81 => ?_) (fun cq81 => ?_)
  · refine j_iconst C dX4_fits_94 (v := nI 0) (by decide) ?_
    refine j_top C (bI (fitB 3 a)) (show nI 0 = bI (decide _) from by rw [decide_eq_false (by omega)]; rfl) ?_
    exact j_zreturn C hret dX4_fits_95 ⟨rfl, rfl⟩
  · refine j_iload_n C dX4_fits_84 rfl ?_
    refine j_bipush C dX4_fits_85 (v := nI 57) (by decide) ?_
    refine j_icmp_gtN C dX4_fits_87 (tgt := 94) (by decide) (by omega) (by omega) (fun cq87 => ?_) (fun cq87 => ?_)
    · refine j_iconst C dX4_fits_94 (v := nI 0) (by decide) ?_
      refine j_top C (bI (fitB 3 a)) (show nI 0 = bI (decide _) from by rw [decide_eq_false (by omega)]; rfl) ?_
      exact j_zreturn C hret dX4_fits_95 ⟨rfl, rfl⟩
    · refine j_iconst C dX4_fits_90 (v := nI 1) (by decide) ?_
      refine j_top C (bI (fitB 3 a)) (show nI 1 = bI (decide _) from by rw [decide_eq_true (by omega)]; rfl) ?_
      refine j_goto C dX4_fits_91 (tgt := 95) (by decide) ?_
      exact j_zreturn C hret dX4_fits_95 ⟨rfl, rfl⟩

set_option maxHeartbeats 4000000 in
set_option maxRecDepth 100000 in
theorem ct_fits_4 {l : Launch} {G : GG} {M : MM} {a : Nat} (ha : a ≤ 126) : Ct l G yX4_fits wsX4_fits 1 ([.int (nI 4), .int (nI a)] : List Value) M (rI (bI (fitB 4 a)) M) := by
  refine Ct.of (cc := cX4_fits) (maxL := 2) (ret := (some .boolean)) (lv := [(0, .int (nI 4)), (1, .int (nI a))]) (by decide) rfl rfl (Nat.le_of_ble_eq_true rfl) ?_
  intro pg ev sg mm bl mt cd AZ C hret
  refine j_iload_n C dX4_fits_0 rfl ?_
  refine j_lookup C dX4_fits_1 (off := 77) (tgt := 78) (by decide) (by decide) (by decide) ?_
  refine j_iload_n C dX4_fits_78 rfl ?_
  refine j_bipush C dX4_fits_79 (v := nI 48) (by decide) ?_
  refine j_icmp_ltN C dX4_fits_81 (tgt := 94) (by decide) (by omega) (by omega) (fun cq81 => ?_) (fun cq81 => ?_)
  · refine j_iconst C dX4_fits_94 (v := nI 0) (by decide) ?_
    refine j_top C (bI (fitB 4 a)) (show nI 0 = bI (decide _) from by rw [decide_eq_false (by omega)]; rfl) ?_
    exact j_zreturn C hret dX4_fits_95 ⟨rfl, rfl⟩
  · refine j_iload_n C dX4_fits_84 rfl ?_
    refine j_bipush C dX4_fits_85 (v := nI 57) (by decide) ?_
    refine j_icmp_gtN C dX4_fits_87 (tgt := 94) (by decide) (by omega) (by omega) (fun cq87 => ?_) (fun cq87 => ?_)
    · refine j_iconst C dX4_fits_94 (v := nI 0) (by decide) ?_
      refine j_top C (bI (fitB 4 a)) (show nI 0 = bI (decide _) from by rw [decide_eq_false (by omega)]; rfl) ?_
      exact j_zreturn C hret dX4_fits_95 ⟨rfl, rfl⟩
    · refine j_iconst C dX4_fits_90 (v := nI 1) (by decide) ?_
      refine j_top C (bI (fitB 4 a)) (show nI 1 = bI (decide _) from by rw [decide_eq_true (by omega)]; rfl) ?_
      refine j_goto C dX4_fits_91 (tgt := 95) (by decide) ?_
      exact j_zreturn C hret dX4_fits_95 ⟨rfl, rfl⟩

set_option maxHeartbeats 4000000 in
set_option maxRecDepth 100000 in
theorem ct_fits_5 {l : Launch} {G : GG} {M : MM} {a : Nat} (ha : a ≤ 126) : Ct l G yX4_fits wsX4_fits 1 ([.int (nI 5), .int (nI a)] : List Value) M (rI (bI (fitB 5 a)) M) := by
  refine Ct.of (cc := cX4_fits) (maxL := 2) (ret := (some .boolean)) (lv := [(0, .int (nI 5)), (1, .int (nI a))]) (by decide) rfl rfl (Nat.le_of_ble_eq_true rfl) ?_
  intro pg ev sg mm bl mt cd AZ C hret
  refine j_iload_n C dX4_fits_0 rfl ?_
  refine j_lookup C dX4_fits_1 (off := 65) (tgt := 66) (by decide) (by decide) (by decide) ?_
  refine j_iload_n C dX4_fits_66 rfl ?_
  refine j_bipush C dX4_fits_67 (v := nI 59) (by decide) ?_
  refine j_icmp_neN C dX4_fits_69 (tgt := 76) (by decide) (by omega) (by omega) (fun cq69 => ?_) (fun cq69 => ?_)
  · refine j_iconst C dX4_fits_76 (v := nI 0) (by decide) ?_
    refine j_top C (bI (fitB 5 a)) (show nI 0 = bI (decide _) from by rw [decide_eq_false (by omega)]; rfl) ?_
    exact j_zreturn C hret dX4_fits_77 ⟨rfl, rfl⟩
  · refine j_iconst C dX4_fits_72 (v := nI 1) (by decide) ?_
    refine j_top C (bI (fitB 5 a)) (show nI 1 = bI (decide _) from by rw [decide_eq_true (by omega)]; rfl) ?_
    refine j_goto C dX4_fits_73 (tgt := 77) (by decide) ?_
    exact j_zreturn C hret dX4_fits_77 ⟨rfl, rfl⟩

theorem ct_fits {l : Launch} {G : GG} {M : MM} {k a : Nat} (hk : k < 6) (ha : a ≤ 126) : Ct l G yX4_fits wsX4_fits 1 [.int (nI k), .int (nI a)] M (rI (bI (fitB k a)) M) := by
  rcases (show k = 0 ∨ k = 1 ∨ k = 2 ∨ k = 3 ∨ k = 4 ∨ k = 5 by omega) with rfl | rfl | rfl | rfl | rfl | rfl
  · exact ct_fits_0 ha
  · exact ct_fits_1 ha
  · exact ct_fits_2 ha
  · exact ct_fits_3 ha
  · exact ct_fits_4 ha
  · exact ct_fits_5 ha

set_option maxHeartbeats 4000000 in
set_option maxRecDepth 100000 in
theorem ct_firstWrong {l : Launch} {G : GG} {M : MM} {n : Nat} {f : Nat → Nat} (hT : Tx M n f) : Ct l G yX4_firstWrong wsX4_firstWrong 2 ([.ref (G.2.2 77)] : List Value) M (rI (nI (erT n f)) M) := by
  have h60 := hT.1
  refine Ct.of (cc := cX4_firstWrong) (maxL := 2) (ret := (some .int)) (lv := [(0, .ref (G.2.2 77))]) (by decide) rfl rfl (Nat.le_of_ble_eq_true rfl) ?_
  intro pg ev sg mm bl mt cd AZ C hret
  refine j_iconst C dX4_firstWrong_0 (v := nI 0) (by decide) ?_
  refine j_istore_n C dX4_firstWrong_1 (by decide) ?_
  have L2 : ∀ i, i ≤ n → (∀ j, j < i → okT f j = true) → J G pg l ev (rmD 2) sg mm ([.ref (G.2.2 77)] : List Value).toArray bl mt cd AZ 2 (MQ bl (QQ G (rI (nI (erT n f)) M) AZ) ([.ref (G.2.2 77)] : List Value).toArray sg 0 0 AZ) 0 0 2 [(0, .ref (G.2.2 77)), (1, .int (nI i))] [] (M) := by
    refine dnto ?_
    intro i hi2 ih2 hb9
    refine j_iload_n C dX4_firstWrong_2 rfl ?_
    refine j_aload_n C dX4_firstWrong_3 rfl ?_
    refine j_getf C dX4_firstWrong_4 rfl (by decide) (T := TX4) rfl in_X4_firstWrong_X4 (k := 1) (by decide) fl_X4_firstWrong_15 rfl rfl ?_
    refine j_top C (_) hT.2.1 ?_
    refine j_icmp_geN C dX4_firstWrong_7 (tgt := 40) (by decide) (by omega) (by omega) (fun cq7 => ?_) (fun cq7 => ?_)
    · refine j_aload_n C dX4_firstWrong_40 rfl ?_
      refine j_getf C dX4_firstWrong_41 rfl (by decide) (T := TX4) rfl in_X4_firstWrong_X4 (k := 1) (by decide) fl_X4_firstWrong_15 rfl rfl ?_
      refine j_top C (_) hT.2.1 ?_
      exact j_ireturn C hret dX4_firstWrong_44 ⟨congrArg (fun z => some (Value.int (nI z))) ((ffF_is (Nat.le_refl n) (fun j hj => hb9 j (by omega)) (Or.inl rfl)).symm), rfl⟩
    · refine j_iload_n C dX4_firstWrong_10 rfl ?_
      refine j_bipush C dX4_firstWrong_11 (v := nI 60) (by decide) ?_
      refine j_icmp_geN C dX4_firstWrong_13 (tgt := 40) (by decide) (by omega) (by omega) (fun cq13 => absurd cq13 (by omega)) (fun cq13 => ?_)
      refine j_iload_n C dX4_firstWrong_16 rfl ?_
      refine j_bipush C dX4_firstWrong_17 (v := nI 6) (by decide) ?_
      refine j_iremN C dX4_firstWrong_19 (by omega) (by decide) (by decide) ?_
      refine j_aload_n C dX4_firstWrong_20 rfl ?_
      refine j_getf C dX4_firstWrong_21 rfl (by decide) (T := TX4) rfl in_X4_firstWrong_X4 (k := 0) (by decide) fl_X4_firstWrong_9 rfl rfl ?_
      refine j_iload_n C dX4_firstWrong_24 rfl ?_
      refine j_ialdN C dX4_firstWrong_25 (show ilen 78 = some 60 from rfl) (by omega) (by decide) ?_
      refine j_top C _ (hT.2.2.1 _ (by omega)) ?_
      refine j_callS C (ct_fits (by omega) (hT.2.2.2 i cq7).2) dX4_firstWrong_26 gX4_firstWrong_X4_fits rfl ks_X4_fits rfl rfl (Nat.le_of_ble_eq_true rfl) ⟨by decide, by decide⟩ ⟨Nat.zero_le _, Nat.zero_le _⟩ (k_I ?_)
      refine j_if_neB C dX4_firstWrong_29 (tgt := 34) (by decide) (fun cq29 => ?_) (fun cq29 => ?_)
      · refine j_iincN C dX4_firstWrong_34 rfl (by decide) ?_
        refine j_goto C dX4_firstWrong_37 (tgt := 2) (by decide) ?_
        exact ih2 (by omega) (fun j hj => (Nat.lt_or_ge j i).elim (hb9 j) (fun q => by rw [show j = i by omega]; exact cq29))
      · refine j_iload_n C dX4_firstWrong_32 rfl ?_
        exact j_ireturn C hret dX4_firstWrong_33 ⟨congrArg (fun z => some (Value.int (nI z))) ((ffF_is hi2 hb9 (Or.inr cq29)).symm), rfl⟩
  exact L2 0 (by omega) (fun j hj => absurd hj (Nat.not_lt_zero j))

theorem tpT_f1 {n : Nat} {f : Nat → Nat} (h : ¬ n % 6 = 5) : nI 0 = bI (tpT n f) := by unfold tpT; rw [decide_eq_false h]; rfl
theorem tpT_f2 {n : Nat} {f : Nat → Nat} (h : ¬ erT n f = n) : nI 0 = bI (tpT n f) := by unfold tpT; rw [decide_eq_false h, Bool.and_false]; rfl
theorem ffF_le {ok : Nat → Bool} : ∀ (n i : Nat), ffF n ok i ≤ i + n
  | 0, i => Nat.le_refl i
  | n + 1, i => by
    show (bif ok i then ffF n ok (i + 1) else i) ≤ _
    cases ok i
    · show i ≤ _; omega
    · have := ffF_le (ok := ok) n (i + 1)
      show ffF n ok (i + 1) ≤ _; omega

set_option maxHeartbeats 4000000 in
set_option maxRecDepth 100000 in
theorem ct_tellsPots {l : Launch} {G : GG} {M : MM} {n : Nat} {f : Nat → Nat} (hT : Tx M n f) : Ct l G yX4_tellsPots wsX4_tellsPots 3 ([.ref (G.2.2 77)] : List Value) M (rI (bI (tpT n f)) M) := by
  have h60 := hT.1
  have hle : erT n f ≤ 0 + n := ffF_le n 0
  refine Ct.of (cc := cX4_tellsPots) (maxL := 1) (ret := (some .boolean)) (lv := [(0, .ref (G.2.2 77))]) (by decide) rfl rfl (Nat.le_of_ble_eq_true rfl) ?_
  intro pg ev sg mm bl mt cd AZ C hret
  refine j_aload_n C dX4_tellsPots_0 rfl ?_
  refine j_getf C dX4_tellsPots_1 rfl (by decide) (T := TX4) rfl in_X4_tellsPots_X4 (k := 1) (by decide) fl_X4_tellsPots_15 rfl rfl ?_
  refine j_top C (_) hT.2.1 ?_
  refine j_bipush C dX4_tellsPots_4 (v := nI 6) (by decide) ?_
  refine j_iremN C dX4_tellsPots_6 (by omega) (by decide) (by decide) ?_
  refine j_iconst C dX4_tellsPots_7 (v := nI 5) (by decide) ?_
  refine j_icmp_neN C dX4_tellsPots_8 (tgt := 26) (by decide) (by omega) (by omega) (fun cq8 => ?_) (fun cq8 => ?_)
  · refine j_iconst C dX4_tellsPots_26 (v := nI 0) (by decide) ?_
    refine j_top C (bI (tpT n f)) (by first | exact tpT_f1 cq8 | exact tpT_f2 cq19) ?_
    exact j_zreturn C hret dX4_tellsPots_27 ⟨rfl, rfl⟩
  · refine j_aload_n C dX4_tellsPots_11 rfl ?_
    refine j_callV C (ct_firstWrong hT) dX4_tellsPots_12 rfl (by decide) (T := TX4) rfl gX4_tellsPots_X4_firstWrong rfl kd_X4_firstWrong rfl rfl (Nat.le_of_ble_eq_true rfl) ⟨by decide, by decide⟩ ⟨Nat.zero_le _, Nat.zero_le _⟩ (k_I ?_)
    refine j_aload_n C dX4_tellsPots_15 rfl ?_
    refine j_getf C dX4_tellsPots_16 rfl (by decide) (T := TX4) rfl in_X4_tellsPots_X4 (k := 1) (by decide) fl_X4_tellsPots_15 rfl rfl ?_
    refine j_top C (_) hT.2.1 ?_
    refine j_icmp_neN C dX4_tellsPots_19 (tgt := 26) (by decide) (by omega) (by omega) (fun cq19 => ?_) (fun cq19 => ?_)
    · refine j_iconst C dX4_tellsPots_26 (v := nI 0) (by decide) ?_
      refine j_top C (bI (tpT n f)) (by first | exact tpT_f1 cq8 | exact tpT_f2 cq19) ?_
      exact j_zreturn C hret dX4_tellsPots_27 ⟨rfl, rfl⟩
    · refine j_iconst C dX4_tellsPots_22 (v := nI 1) (by decide) ?_
      refine j_top C (bI (tpT n f)) (by unfold tpT; rw [decide_eq_true cq8, decide_eq_true cq19]; rfl) ?_
      refine j_goto C dX4_tellsPots_23 (tgt := 27) (by decide) ?_
      exact j_zreturn C hret dX4_tellsPots_27 ⟨rfl, rfl⟩

set_option maxHeartbeats 4000000 in
set_option maxRecDepth 100000 in
theorem ct_giveColours {l : Launch} {G : GG} {M : MM} {n : Nat} {f : Nat → Nat} (hT : Tx M n f) {σ : Sg} (hB : Bu M 0 σ) (ht : tpT n f = true) : Ct l G yX4_giveColours wsX4_giveColours 1 ([.ref (G.2.2 77), .ref (G.2.2 0)] : List Value) M (fun v M9 => v = none ∧ Bu M9 0 (gvS σ f (n / 6 + 1)) ∧ Off M M9 (inB 0)) := by
  have h60 := hT.1
  obtain ⟨h5, h6⟩ := tpT_ok ht
  refine Ct.of (cc := cX4_giveColours) (maxL := 4) (ret := none) (lv := [(0, .ref (G.2.2 77)), (1, .ref (G.2.2 0))]) (by decide) rfl rfl (Nat.le_of_ble_eq_true rfl) ?_
  intro pg ev sg mm bl mt cd AZ C hret
  refine j_iconst C dX4_giveColours_0 (v := nI 0) (by decide) ?_
  refine j_istore_n C dX4_giveColours_1 (by decide) ?_
  have L2 : ∀ k, k ≤ n / 6 + 1 → ∀ M2, Bu M2 0 (gvS σ f k) → Off M M2 (inB 0) → J G pg l ev (rmD 1) sg mm ([.ref (G.2.2 77), .ref (G.2.2 0)] : List Value).toArray bl mt cd AZ 4 (MQ bl (QQ G (fun v M9 => v = none ∧ Bu M9 0 (gvS σ f (n / 6 + 1)) ∧ Off M M9 (inB 0)) AZ) ([.ref (G.2.2 77), .ref (G.2.2 0)] : List Value).toArray sg 0 0 AZ) 0 0 2 [(0, .ref (G.2.2 77)), (1, .ref (G.2.2 0)), (2, .int (nI (6 * k)))] [] (M2) := by
    refine dnto ?_
    intro k hk2 ih2 M2 hB2 ho2
    have hT2 := hT.of ho2.of (by unfold inB; omega) (by unfold inB; omega)
    refine j_iload_n C dX4_giveColours_2 rfl ?_
    refine j_iconst C dX4_giveColours_3 (v := nI 4) (by decide) ?_
    refine j_iaddN C dX4_giveColours_4 ?_
    refine j_aload_n C dX4_giveColours_5 rfl ?_
    refine j_getf C dX4_giveColours_6 rfl (by decide) (T := TX4) rfl in_X4_giveColours_X4 (k := 1) (by decide) fl_X4_giveColours_15 rfl rfl ?_
    refine j_top C (_) hT2.2.1 ?_
    refine j_icmp_geN C dX4_giveColours_9 (tgt := 93) (by decide) (by omega) (by omega) (fun cq9 => ?_) (fun cq9 => ?_)
    · have e9 : k = n / 6 + 1 := by omega
      subst e9
      exact j_return C hret dX4_giveColours_93 ⟨rfl, hB2, ho2⟩
    · obtain ⟨a0, a2, a3, a4⟩ := h6 k (by omega)
      refine j_iload_n C dX4_giveColours_12 rfl ?_
      refine j_iconst C dX4_giveColours_13 (v := nI 4) (by decide) ?_
      refine j_iaddN C dX4_giveColours_14 ?_
      refine j_bipush C dX4_giveColours_15 (v := nI 60) (by decide) ?_
      refine j_icmp_geN C dX4_giveColours_17 (tgt := 93) (by decide) (by omega) (by omega) (fun cq17 => absurd cq17 (by omega)) (fun cq17 => ?_)
      refine j_aload_n C dX4_giveColours_20 rfl ?_
      refine j_getf C dX4_giveColours_21 rfl (by decide) (T := TX4) rfl in_X4_giveColours_X4 (k := 0) (by decide) fl_X4_giveColours_9 rfl rfl ?_
      refine j_iload_n C dX4_giveColours_24 rfl ?_
      refine j_ialdN C dX4_giveColours_25 (show ilen 78 = some 60 from rfl) (by omega) (by decide) ?_
      refine j_top C _ (hT2.2.2.1 _ (by omega)) ?_
      refine j_bipush C dX4_giveColours_26 (v := nI 48) (by decide) ?_
      refine j_isubN C dX4_giveColours_28 (by omega) ?_
      refine j_istore_n C dX4_giveColours_29 (by decide) ?_
      refine j_iload_n C dX4_giveColours_30 rfl ?_
      refine j_if_ltN C dX4_giveColours_31 (tgt := 87) (by decide) (by omega) (fun cq31 => absurd cq31 (by omega)) (fun cq31 => ?_)
      refine j_iload_n C dX4_giveColours_34 rfl ?_
      refine j_bipush C dX4_giveColours_35 (v := nI 8) (by decide) ?_
      refine j_icmp_geN C dX4_giveColours_37 (tgt := 87) (by decide) (by omega) (by omega) (fun cq37 => absurd cq37 (by omega)) (fun cq37 => ?_)
      refine j_aload_n C dX4_giveColours_40 rfl ?_
      refine j_getfN C dX4_giveColours_41 (cell_B (b := 0) (by decide)) (by decide) (T := TX0) rfl in_X4_giveColours_X0 (k := 0) (by decide) nl_X4_27 rfl rfl ?_
      refine j_iload_n C dX4_giveColours_44 rfl ?_
      refine j_bipush C dX4_giveColours_45 (v := nI 100) (by decide) ?_
      refine j_aload_n C dX4_giveColours_47 rfl ?_
      refine j_getf C dX4_giveColours_48 rfl (by decide) (T := TX4) rfl in_X4_giveColours_X4 (k := 0) (by decide) fl_X4_giveColours_9 rfl rfl ?_
      refine j_iload_n C dX4_giveColours_51 rfl ?_
      refine j_iconst C dX4_giveColours_52 (v := nI 2) (by decide) ?_
      refine j_iaddN C dX4_giveColours_53 ?_
      refine j_ialdN C dX4_giveColours_54 (show ilen 78 = some 60 from rfl) (by omega) (by decide) ?_
      refine j_top C _ (hT2.2.2.1 _ (by omega)) ?_
      refine j_bipush C dX4_giveColours_55 (v := nI 48) (by decide) ?_
      refine j_isubN C dX4_giveColours_57 (by omega) ?_
      refine j_imulN C dX4_giveColours_58 ?_
      refine j_bipush C dX4_giveColours_59 (v := nI 10) (by decide) ?_
      refine j_aload_n C dX4_giveColours_61 rfl ?_
      refine j_getf C dX4_giveColours_62 rfl (by decide) (T := TX4) rfl in_X4_giveColours_X4 (k := 0) (by decide) fl_X4_giveColours_9 rfl rfl ?_
      refine j_iload_n C dX4_giveColours_65 rfl ?_
      refine j_iconst C dX4_giveColours_66 (v := nI 3) (by decide) ?_
      refine j_iaddN C dX4_giveColours_67 ?_
      refine j_ialdN C dX4_giveColours_68 (show ilen 78 = some 60 from rfl) (by omega) (by decide) ?_
      refine j_top C _ (hT2.2.2.1 _ (by omega)) ?_
      refine j_bipush C dX4_giveColours_69 (v := nI 48) (by decide) ?_
      refine j_isubN C dX4_giveColours_71 (by omega) ?_
      refine j_imulN C dX4_giveColours_72 ?_
      refine j_iaddN C dX4_giveColours_73 ?_
      refine j_aload_n C dX4_giveColours_74 rfl ?_
      refine j_getf C dX4_giveColours_75 rfl (by decide) (T := TX4) rfl in_X4_giveColours_X4 (k := 0) (by decide) fl_X4_giveColours_9 rfl rfl ?_
      refine j_iload_n C dX4_giveColours_78 rfl ?_
      refine j_iconst C dX4_giveColours_79 (v := nI 4) (by decide) ?_
      refine j_iaddN C dX4_giveColours_80 ?_
      refine j_ialdN C dX4_giveColours_81 (show ilen 78 = some 60 from rfl) (by omega) (by decide) ?_
      refine j_top C _ (hT2.2.2.1 _ (by omega)) ?_
      refine j_bipush C dX4_giveColours_82 (v := nI 48) (by decide) ?_
      refine j_isubN C dX4_giveColours_84 (by omega) ?_
      refine j_iaddN C dX4_giveColours_85 ?_
      refine j_iastN C dX4_giveColours_86 (show ilen 1 = some 8 from rfl) (by omega) (by decide) ?_
      refine j_iincN C dX4_giveColours_87 rfl (by decide) ?_
      refine j_goto C dX4_giveColours_90 (tgt := 2) (by decide) ?_
      exact j_pick [0, 1, 2] (ih2 (by omega) _ (Bu_col (b := 0) (by omega) hB2) (ho2.tr (Off.R (by unfold inB; omega))))
  exact L2 0 (by omega) M hB Off.rf
