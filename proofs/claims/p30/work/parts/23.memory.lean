set_option maxRecDepth 20000 in
theorem in_X0_copyFrom_X0 : ∀ w ∈ wsX00, w ∈ wsX0_copyFrom := by decide +kernel
set_option maxRecDepth 20000 in
theorem fl_X0_copyFrom_9 : Cond.fieldLink RX0 9 "PotLabels$Bureau" "colours" "[I" ∈ wsX0_copyFrom := by decide +kernel
set_option maxRecDepth 20000 in
theorem ml_X0_copyFrom_33 : Cond.methodLink RX0 33 arraycopyName ∈ wsX0_copyFrom := by decide +kernel
set_option maxRecDepth 20000 in
theorem an_X0_copyFrom : Cond.native arraycopyName ∈ wsX0_copyFrom := by decide +kernel
set_option maxRecDepth 20000 in
theorem as_X0_copyFrom : Cond.static arraycopyName ∈ wsX0_copyFrom := by decide +kernel
set_option maxRecDepth 20000 in
theorem ai_X0_copyFrom : Cond.initialized "java/lang/System" ∈ wsX0_copyFrom := by decide +kernel
set_option maxRecDepth 20000 in
theorem fl_X0_copyFrom_15 : Cond.fieldLink RX0 15 "PotLabels$Bureau" "labels" "[I" ∈ wsX0_copyFrom := by decide +kernel
set_option maxRecDepth 20000 in
theorem fl_X0_copyFrom_18 : Cond.fieldLink RX0 18 "PotLabels$Bureau" "kinds" "[I" ∈ wsX0_copyFrom := by decide +kernel
set_option maxRecDepth 20000 in
theorem fl_X0_copyFrom_21 : Cond.fieldLink RX0 21 "PotLabels$Bureau" "sharpnesses" "[I" ∈ wsX0_copyFrom := by decide +kernel
set_option maxRecDepth 20000 in
theorem fl_X0_copyFrom_24 : Cond.fieldLink RX0 24 "PotLabels$Bureau" "lenders" "[I" ∈ wsX0_copyFrom := by decide +kernel
set_option maxRecDepth 20000 in
theorem fl_X0_copyFrom_27 : Cond.fieldLink RX0 27 "PotLabels$Bureau" "figures" "[I" ∈ wsX0_copyFrom := by decide +kernel
set_option maxRecDepth 20000 in
theorem fl_X0_copyFrom_30 : Cond.fieldLink RX0 30 "PotLabels$Bureau" "grounds" "[I" ∈ wsX0_copyFrom := by decide +kernel
set_option maxRecDepth 20000 in
theorem fl_X0_copyFrom_39 : Cond.fieldLink RX0 39 "PotLabels$Bureau" "charts" "I" ∈ wsX0_copyFrom := by decide +kernel
set_option maxRecDepth 20000 in
theorem fl_X0_copyFrom_43 : Cond.fieldLink RX0 43 "PotLabels$Bureau" "corrections" "I" ∈ wsX0_copyFrom := by decide +kernel
set_option maxRecDepth 20000 in
theorem fl_X0_copyFrom_46 : Cond.fieldLink RX0 46 "PotLabels$Bureau" "refusals" "I" ∈ wsX0_copyFrom := by decide +kernel
set_option maxRecDepth 20000 in
theorem in_X3_dropOldest_X3 : ∀ w ∈ wsX30, w ∈ wsX3_dropOldest := by decide +kernel
set_option maxRecDepth 20000 in
theorem fl_X3_dropOldest_21 : Cond.fieldLink RX3 21 "PotLabels$Memory" "saved" "[LPotLabels$Bureau;" ∈ wsX3_dropOldest := by decide +kernel
set_option maxRecDepth 20000 in
theorem fl_X3_dropOldest_25 : Cond.fieldLink RX3 25 "PotLabels$Memory" "held" "I" ∈ wsX3_dropOldest := by decide +kernel
set_option maxRecDepth 20000 in
theorem in_X3_save_X3 : ∀ w ∈ wsX30, w ∈ wsX3_save := by decide +kernel
set_option maxRecDepth 20000 in
theorem fl_X3_save_25 : Cond.fieldLink RX3 25 "PotLabels$Memory" "held" "I" ∈ wsX3_save := by decide +kernel
set_option maxRecDepth 20000 in
theorem fl_X3_save_21 : Cond.fieldLink RX3 21 "PotLabels$Memory" "saved" "[LPotLabels$Bureau;" ∈ wsX3_save := by decide +kernel
set_option maxRecDepth 20000 in
theorem kd_X0_copyFrom : yX0_copyFrom.cls = RX0 ∧ yX0_copyFrom.cls ≠ "java/lang/invoke/MethodHandle" ∧ yX0_copyFrom.cls ≠ "java/lang/invoke/VarHandle" ∧ (parseMethodDescriptor yX0_copyFrom.desc).map (fun d => d.parameters.length) = some 1 := by decide +kernel
set_option maxRecDepth 20000 in
theorem kd_X3_dropOldest : yX3_dropOldest.cls = RX3 ∧ yX3_dropOldest.cls ≠ "java/lang/invoke/MethodHandle" ∧ yX3_dropOldest.cls ≠ "java/lang/invoke/VarHandle" ∧ (parseMethodDescriptor yX3_dropOldest.desc).map (fun d => d.parameters.length) = some 0 := by decide +kernel
set_option maxRecDepth 20000 in
theorem in_X3_restore_X3 : ∀ w ∈ wsX30, w ∈ wsX3_restore := by decide +kernel
set_option maxRecDepth 20000 in
theorem fl_X3_restore_25 : Cond.fieldLink RX3 25 "PotLabels$Memory" "held" "I" ∈ wsX3_restore := by decide +kernel
set_option maxRecDepth 20000 in
theorem fl_X3_restore_21 : Cond.fieldLink RX3 21 "PotLabels$Memory" "saved" "[LPotLabels$Bureau;" ∈ wsX3_restore := by decide +kernel
set_option maxHeartbeats 4000000 in
set_option maxRecDepth 100000 in
theorem ct_copyFrom {l : Launch} {G : GG} {M : MM} {b b2 : Nat} {σ : Sg} (hb : b < 9) (hb2 : b2 < 9) (hne : b ≠ b2) (hB : Bu M b2 σ) : Ct l G yX0_copyFrom wsX0_copyFrom 1 ([.ref (G.2.2 (8 * b)), .ref (G.2.2 (8 * b2))] : List Value) M (fun v M9 => v = none ∧ Bu M9 b σ ∧ Off M M9 (inB b)) := by
  refine Ct.of (cc := cX0_copyFrom) (maxL := 2) (ret := none) (lv := [(0, .ref (G.2.2 (8 * b))), (1, .ref (G.2.2 (8 * b2)))]) (by decide) rfl rfl (Nat.le_of_ble_eq_true rfl) ?_
  intro pg ev sg mm bl mt cd AZ C hret
  refine j_aload_n C dX0_copyFrom_0 rfl ?_
  refine j_getf C dX0_copyFrom_1 (cell_B hb2) (by unfold NN; omega) (T := TX0) rfl in_X0_copyFrom_X0 (k := 0) (by decide) fl_X0_copyFrom_9 rfl rfl ?_
  refine j_iconst C dX0_copyFrom_4 (v := nI 0) (by decide) ?_
  refine j_aload_n C dX0_copyFrom_5 rfl ?_
  refine j_getf C dX0_copyFrom_6 (cell_B hb) (by unfold NN; omega) (T := TX0) rfl in_X0_copyFrom_X0 (k := 0) (by decide) fl_X0_copyFrom_9 rfl rfl ?_
  refine j_iconst C dX0_copyFrom_9 (v := nI 0) (by decide) ?_
  refine j_bipush C dX0_copyFrom_10 (v := nI 8) (by decide) ?_
  refine j_copyi C dX0_copyFrom_12 ml_X0_copyFrom_33 an_X0_copyFrom as_X0_copyFrom ai_X0_copyFrom (show ilen (8 * b2 + 1) = some 8 from ilen_B hb2 (by decide) (by decide)) (show ilen (8 * b + 1) = some 8 from ilen_B hb (by decide) (by decide)) (by decide) (by decide) (by decide) (by decide) (by decide) ?_
  refine j_aload_n C dX0_copyFrom_15 rfl ?_
  refine j_getf C dX0_copyFrom_16 (cell_B hb2) (by unfold NN; omega) (T := TX0) rfl in_X0_copyFrom_X0 (k := 1) (by decide) fl_X0_copyFrom_15 rfl rfl ?_
  refine j_iconst C dX0_copyFrom_19 (v := nI 0) (by decide) ?_
  refine j_aload_n C dX0_copyFrom_20 rfl ?_
  refine j_getf C dX0_copyFrom_21 (cell_B hb) (by unfold NN; omega) (T := TX0) rfl in_X0_copyFrom_X0 (k := 1) (by decide) fl_X0_copyFrom_15 rfl rfl ?_
  refine j_iconst C dX0_copyFrom_24 (v := nI 0) (by decide) ?_
  refine j_bipush C dX0_copyFrom_25 (v := nI 8) (by decide) ?_
  refine j_copyi C dX0_copyFrom_27 ml_X0_copyFrom_33 an_X0_copyFrom as_X0_copyFrom ai_X0_copyFrom (show ilen (8 * b2 + 2) = some 8 from ilen_B hb2 (by decide) (by decide)) (show ilen (8 * b + 2) = some 8 from ilen_B hb (by decide) (by decide)) (by decide) (by decide) (by decide) (by decide) (by decide) ?_
  refine j_aload_n C dX0_copyFrom_30 rfl ?_
  refine j_getf C dX0_copyFrom_31 (cell_B hb2) (by unfold NN; omega) (T := TX0) rfl in_X0_copyFrom_X0 (k := 2) (by decide) fl_X0_copyFrom_18 rfl rfl ?_
  refine j_iconst C dX0_copyFrom_34 (v := nI 0) (by decide) ?_
  refine j_aload_n C dX0_copyFrom_35 rfl ?_
  refine j_getf C dX0_copyFrom_36 (cell_B hb) (by unfold NN; omega) (T := TX0) rfl in_X0_copyFrom_X0 (k := 2) (by decide) fl_X0_copyFrom_18 rfl rfl ?_
  refine j_iconst C dX0_copyFrom_39 (v := nI 0) (by decide) ?_
  refine j_iconst C dX0_copyFrom_40 (v := nI 4) (by decide) ?_
  refine j_copyi C dX0_copyFrom_41 ml_X0_copyFrom_33 an_X0_copyFrom as_X0_copyFrom ai_X0_copyFrom (show ilen (8 * b2 + 3) = some 4 from ilen_B hb2 (by decide) (by decide)) (show ilen (8 * b + 3) = some 4 from ilen_B hb (by decide) (by decide)) (by decide) (by decide) (by decide) (by decide) (by decide) ?_
  refine j_aload_n C dX0_copyFrom_44 rfl ?_
  refine j_getf C dX0_copyFrom_45 (cell_B hb2) (by unfold NN; omega) (T := TX0) rfl in_X0_copyFrom_X0 (k := 3) (by decide) fl_X0_copyFrom_21 rfl rfl ?_
  refine j_iconst C dX0_copyFrom_48 (v := nI 0) (by decide) ?_
  refine j_aload_n C dX0_copyFrom_49 rfl ?_
  refine j_getf C dX0_copyFrom_50 (cell_B hb) (by unfold NN; omega) (T := TX0) rfl in_X0_copyFrom_X0 (k := 3) (by decide) fl_X0_copyFrom_21 rfl rfl ?_
  refine j_iconst C dX0_copyFrom_53 (v := nI 0) (by decide) ?_
  refine j_iconst C dX0_copyFrom_54 (v := nI 4) (by decide) ?_
  refine j_copyi C dX0_copyFrom_55 ml_X0_copyFrom_33 an_X0_copyFrom as_X0_copyFrom ai_X0_copyFrom (show ilen (8 * b2 + 4) = some 4 from ilen_B hb2 (by decide) (by decide)) (show ilen (8 * b + 4) = some 4 from ilen_B hb (by decide) (by decide)) (by decide) (by decide) (by decide) (by decide) (by decide) ?_
  refine j_aload_n C dX0_copyFrom_58 rfl ?_
  refine j_getf C dX0_copyFrom_59 (cell_B hb2) (by unfold NN; omega) (T := TX0) rfl in_X0_copyFrom_X0 (k := 4) (by decide) fl_X0_copyFrom_24 rfl rfl ?_
  refine j_iconst C dX0_copyFrom_62 (v := nI 0) (by decide) ?_
  refine j_aload_n C dX0_copyFrom_63 rfl ?_
  refine j_getf C dX0_copyFrom_64 (cell_B hb) (by unfold NN; omega) (T := TX0) rfl in_X0_copyFrom_X0 (k := 4) (by decide) fl_X0_copyFrom_24 rfl rfl ?_
  refine j_iconst C dX0_copyFrom_67 (v := nI 0) (by decide) ?_
  refine j_iconst C dX0_copyFrom_68 (v := nI 4) (by decide) ?_
  refine j_copyi C dX0_copyFrom_69 ml_X0_copyFrom_33 an_X0_copyFrom as_X0_copyFrom ai_X0_copyFrom (show ilen (8 * b2 + 5) = some 4 from ilen_B hb2 (by decide) (by decide)) (show ilen (8 * b + 5) = some 4 from ilen_B hb (by decide) (by decide)) (by decide) (by decide) (by decide) (by decide) (by decide) ?_
  refine j_aload_n C dX0_copyFrom_72 rfl ?_
  refine j_getf C dX0_copyFrom_73 (cell_B hb2) (by unfold NN; omega) (T := TX0) rfl in_X0_copyFrom_X0 (k := 5) (by decide) fl_X0_copyFrom_27 rfl rfl ?_
  refine j_iconst C dX0_copyFrom_76 (v := nI 0) (by decide) ?_
  refine j_aload_n C dX0_copyFrom_77 rfl ?_
  refine j_getf C dX0_copyFrom_78 (cell_B hb) (by unfold NN; omega) (T := TX0) rfl in_X0_copyFrom_X0 (k := 5) (by decide) fl_X0_copyFrom_27 rfl rfl ?_
  refine j_iconst C dX0_copyFrom_81 (v := nI 0) (by decide) ?_
  refine j_bipush C dX0_copyFrom_82 (v := nI 6) (by decide) ?_
  refine j_copyi C dX0_copyFrom_84 ml_X0_copyFrom_33 an_X0_copyFrom as_X0_copyFrom ai_X0_copyFrom (show ilen (8 * b2 + 6) = some 6 from ilen_B hb2 (by decide) (by decide)) (show ilen (8 * b + 6) = some 6 from ilen_B hb (by decide) (by decide)) (by decide) (by decide) (by decide) (by decide) (by decide) ?_
  refine j_aload_n C dX0_copyFrom_87 rfl ?_
  refine j_getf C dX0_copyFrom_88 (cell_B hb2) (by unfold NN; omega) (T := TX0) rfl in_X0_copyFrom_X0 (k := 6) (by decide) fl_X0_copyFrom_30 rfl rfl ?_
  refine j_iconst C dX0_copyFrom_91 (v := nI 0) (by decide) ?_
  refine j_aload_n C dX0_copyFrom_92 rfl ?_
  refine j_getf C dX0_copyFrom_93 (cell_B hb) (by unfold NN; omega) (T := TX0) rfl in_X0_copyFrom_X0 (k := 6) (by decide) fl_X0_copyFrom_30 rfl rfl ?_
  refine j_iconst C dX0_copyFrom_96 (v := nI 0) (by decide) ?_
  refine j_bipush C dX0_copyFrom_97 (v := nI 6) (by decide) ?_
  refine j_copyi C dX0_copyFrom_99 ml_X0_copyFrom_33 an_X0_copyFrom as_X0_copyFrom ai_X0_copyFrom (show ilen (8 * b2 + 7) = some 6 from ilen_B hb2 (by decide) (by decide)) (show ilen (8 * b + 7) = some 6 from ilen_B hb (by decide) (by decide)) (by decide) (by decide) (by decide) (by decide) (by decide) ?_
  refine j_aload_n C dX0_copyFrom_102 rfl ?_
  refine j_aload_n C dX0_copyFrom_103 rfl ?_
  refine j_getf C dX0_copyFrom_104 (cell_B hb2) (by unfold NN; omega) (T := TX0) rfl in_X0_copyFrom_X0 (k := 7) (by decide) fl_X0_copyFrom_39 rfl rfl ?_
  refine j_putf C dX0_copyFrom_107 (cell_B hb) (by unfold NN; omega) (T := TX0) rfl in_X0_copyFrom_X0 tyX0 tyX0_ok nmX0 (k := 7) (by decide) fl_X0_copyFrom_39 rfl rfl (by decide +kernel) (Nat.le_of_ble_eq_true rfl) (putB_7 hb) ?_
  refine j_aload_n C dX0_copyFrom_110 rfl ?_
  refine j_aload_n C dX0_copyFrom_111 rfl ?_
  refine j_getf C dX0_copyFrom_112 (cell_B hb2) (by unfold NN; omega) (T := TX0) rfl in_X0_copyFrom_X0 (k := 8) (by decide) fl_X0_copyFrom_43 rfl rfl ?_
  refine j_top C (M.2.1 (8 * b2) 8) (setV_nk (by decide)) ?_
  refine j_putf C dX0_copyFrom_115 (cell_B hb) (by unfold NN; omega) (T := TX0) rfl in_X0_copyFrom_X0 tyX0 tyX0_ok nmX0 (k := 8) (by decide) fl_X0_copyFrom_43 rfl rfl (by decide +kernel) (Nat.le_of_ble_eq_true rfl) (putB_8 hb) ?_
  refine j_aload_n C dX0_copyFrom_118 rfl ?_
  refine j_aload_n C dX0_copyFrom_119 rfl ?_
  refine j_getf C dX0_copyFrom_120 (cell_B hb2) (by unfold NN; omega) (T := TX0) rfl in_X0_copyFrom_X0 (k := 9) (by decide) fl_X0_copyFrom_46 rfl rfl ?_
  refine j_top C (M.2.1 (8 * b2) 9) ((setV_nk (by decide)).trans (setV_nk (by decide))) ?_
  refine j_putf C dX0_copyFrom_123 (cell_B hb) (by unfold NN; omega) (T := TX0) rfl in_X0_copyFrom_X0 tyX0 tyX0_ok nmX0 (k := 9) (by decide) fl_X0_copyFrom_46 rfl rfl (by decide +kernel) (Nat.le_of_ble_eq_true rfl) (putB_9 hb) ?_
  exact j_return C hret dX0_copyFrom_126 ⟨rfl, Bu_copy hne hB, Off_cpM⟩

set_option maxHeartbeats 4000000 in
set_option maxRecDepth 100000 in
theorem ct_dropOldest {l : Launch} {G : GG} {M : MM} (hp3 : ∀ k, k < 6 → M.2.2.1 k < 6) : Ct l G yX3_dropOldest wsX3_dropOldest 1 ([.ref (G.2.2 73)] : List Value) M (rV (setV (setP M (rotd M.2.2.1)) 73 3 (nI 5))) := by
  refine Ct.of (cc := cX3_dropOldest) (maxL := 3) (ret := none) (lv := [(0, .ref (G.2.2 73))]) (by decide) rfl rfl (Nat.le_of_ble_eq_true rfl) ?_
  intro pg ev sg mm bl mt cd AZ C hret
  refine j_aload_n C dX3_dropOldest_0 rfl ?_
  refine j_getf C dX3_dropOldest_1 rfl (by decide) (T := TX3) rfl in_X3_dropOldest_X3 (k := 2) (by decide) fl_X3_dropOldest_21 rfl rfl ?_
  refine j_iconst C dX3_dropOldest_4 (v := nI 0) (by decide) ?_
  refine j_aald76 C dX3_dropOldest_5 (by omega) ?_
  refine j_astore_n C dX3_dropOldest_6 (by decide) ?_
  refine j_iconst C dX3_dropOldest_7 (v := nI 1) (by decide) ?_
  refine j_istore_n C dX3_dropOldest_8 (by decide) ?_
  have L9 : ∀ n, n ≤ 6 → 0 < n → J G pg l ev (rmD 1) sg mm ([.ref (G.2.2 73)] : List Value).toArray bl mt cd AZ 3 (MQ bl (QQ G (rV (setV (setP M (rotd M.2.2.1)) 73 3 (nI 5))) AZ) ([.ref (G.2.2 73)] : List Value).toArray sg 0 0 AZ) 0 0 9 [(0, .ref (G.2.2 73)), (1, .ref (G.2.2 (8 * (3 + M.2.2.1 0)))), (2, .int (nI n))] [] (setP M (rot M.2.2.1 n)) := by
    refine dnto ?_
    intro n hn9 ih9 hn0
    refine j_iload_n C dX3_dropOldest_9 rfl ?_
    refine j_bipush C dX3_dropOldest_10 (v := nI 6) (by decide) ?_
    refine j_icmp_geN C dX3_dropOldest_12 (tgt := 35) (by decide) (by omega) (by omega) (fun cq12 => ?_) (fun cq12 => ?_)
    · have e6 : n = 6 := by omega
      subst e6
      refine j_aload_n C dX3_dropOldest_35 rfl ?_
      refine j_getf C dX3_dropOldest_36 rfl (by decide) (T := TX3) rfl in_X3_dropOldest_X3 (k := 2) (by decide) fl_X3_dropOldest_21 rfl rfl ?_
      refine j_iconst C dX3_dropOldest_39 (v := nI 5) (by decide) ?_
      refine j_aload_n C dX3_dropOldest_40 rfl ?_
      refine j_aast76 C dX3_dropOldest_41 (by decide) (hp3 0 (by decide)) ?_
      refine j_aload_n C dX3_dropOldest_42 rfl ?_
      refine j_iconst C dX3_dropOldest_43 (v := nI 5) (by decide) ?_
      refine j_putf C dX3_dropOldest_44 rfl (by decide) (T := TX3) rfl in_X3_dropOldest_X3 tyX3 tyX3_ok nmX3 (k := 3) (by decide) fl_X3_dropOldest_25 rfl rfl (by decide +kernel) (Nat.le_of_ble_eq_true rfl) rfl ?_
      exact j_return C hret dX3_dropOldest_47 ⟨rfl, rfl⟩
    · refine j_aload_n C dX3_dropOldest_15 rfl ?_
      refine j_getf C dX3_dropOldest_16 rfl (by decide) (T := TX3) rfl in_X3_dropOldest_X3 (k := 2) (by decide) fl_X3_dropOldest_21 rfl rfl ?_
      refine j_iload_n C dX3_dropOldest_19 rfl ?_
      refine j_iconst C dX3_dropOldest_20 (v := nI 1) (by decide) ?_
      refine j_isubN C dX3_dropOldest_21 (by omega) ?_
      refine j_aload_n C dX3_dropOldest_22 rfl ?_
      refine j_getf C dX3_dropOldest_23 rfl (by decide) (T := TX3) rfl in_X3_dropOldest_X3 (k := 2) (by decide) fl_X3_dropOldest_21 rfl rfl ?_
      refine j_iload_n C dX3_dropOldest_26 rfl ?_
      refine j_aald76 C dX3_dropOldest_27 (by omega) ?_
      refine j_aast76 C dX3_dropOldest_28 (by omega) (rot_lt hp3 (by omega) (by omega)) ?_
      refine j_iincN C dX3_dropOldest_29 rfl (by decide) ?_
      refine j_goto C dX3_dropOldest_32 (tgt := 9) (by decide) ?_
      exact j_mem C (congrArg (setP M) (rot_s hn0)) (ih9 (by omega) (by omega))
  exact j_mem C (congrArg (setP M) (rot_1 M.2.2.1).symm) (L9 1 (by decide) (by decide))

set_option maxHeartbeats 4000000 in
set_option maxRecDepth 100000 in
theorem ct_save_a {l : Launch} {G : GG} {M : MM} {n : Nat} (hn : n < 6) {sv : Nat → Sg} {σ : Sg} (hM : Mem M n sv) (hB : Bu M 0 σ) : Ct l G yX3_save wsX3_save 2 ([.ref (G.2.2 73), .ref (G.2.2 0)] : List Value) M (fun v M9 => v = none ∧ Mem M9 (svN n) (svS n sv σ) ∧ Of M M9 inK) := by
  have hlt := hM.2.2.1
  have hb : 3 + M.2.2.1 n < 9 := by have := hlt n hn; omega
  have hB9 := hB
  have e73 : ∀ M3, Off M M3 (inB (3 + M.2.2.1 n)) → M3.2.1 73 3 = nI n := fun M3 h => by rw [(h.1 73 (by unfold inB; omega)).2]; exact hM.2.1
  refine Ct.of (cc := cX3_save) (maxL := 2) (ret := none) (lv := [(0, .ref (G.2.2 73)), (1, .ref (G.2.2 0))]) (by decide) rfl rfl (Nat.le_of_ble_eq_true rfl) ?_
  intro pg ev sg mm bl mt cd AZ C hret
  refine j_aload_n C dX3_save_0 rfl ?_
  refine j_getf C dX3_save_1 rfl (by decide) (T := TX3) rfl in_X3_save_X3 (k := 3) (by decide) fl_X3_save_25 rfl rfl ?_
  refine j_top C (_) hM.2.1 ?_
  refine j_bipush C dX3_save_4 (v := nI 6) (by decide) ?_
  refine j_icmp_ltN C dX3_save_6 (tgt := 13) (by decide) (by omega) (by omega) (fun cq6 => ?_) (fun cq6 => absurd cq6 (by omega))
  refine j_aload_n C dX3_save_13 rfl ?_
  refine j_getf C dX3_save_14 rfl (by decide) (T := TX3) rfl in_X3_save_X3 (k := 2) (by decide) fl_X3_save_21 rfl rfl ?_
  refine j_aload_n C dX3_save_17 rfl ?_
  refine j_getf C dX3_save_18 rfl (by decide) (T := TX3) rfl in_X3_save_X3 (k := 3) (by decide) fl_X3_save_25 rfl rfl ?_
  refine j_top C (_) hM.2.1 ?_
  refine j_aald76 C dX3_save_21 (by omega) ?_
  refine j_aload_n C dX3_save_22 rfl ?_
  refine j_callV C (ct_copyFrom (b := 3 + M.2.2.1 n) (b2 := 0) hb (by decide) (by omega) hB9) dX3_save_23 (cell_B (by omega)) (by unfold NN; omega) (T := TX0) rfl gX3_save_X0_copyFrom rfl kd_X0_copyFrom rfl rfl (Nat.le_of_ble_eq_true rfl) ⟨by decide, by decide⟩ ⟨Nat.zero_le _, Nat.zero_le _⟩ (k_VQ fun M3 hq => ?_)
  obtain ⟨hq1, hq2⟩ := hq
  refine j_aload_n C dX3_save_26 rfl ?_
  refine j_dup C dX3_save_27 rfl ?_
  refine j_getf C dX3_save_28 rfl (by decide) (T := TX3) rfl in_X3_save_X3 (k := 3) (by decide) fl_X3_save_25 rfl rfl ?_
  refine j_top C (_) (e73 M3 hq2) ?_
  refine j_iconst C dX3_save_31 (v := nI 1) (by decide) ?_
  refine j_iaddN C dX3_save_32 ?_
  refine j_putf C dX3_save_33 rfl (by decide) (T := TX3) rfl in_X3_save_X3 tyX3 tyX3_ok nmX3 (k := 3) (by decide) fl_X3_save_25 rfl rfl (by decide +kernel) (Nat.le_of_ble_eq_true rfl) rfl ?_
  exact j_return C hret dX3_save_36 ⟨rfl, by unfold svN; rw [if_neg (by omega)]; unfold svS; rw [if_neg (by omega)]; exact Mem_put hM hn hq1 hq2, (hq2.of.mono (fun a ha => by unfold inB at ha; unfold inK; omega)).tr (Off.of (Off.V (Or.inr rfl)))⟩

set_option maxHeartbeats 4000000 in
set_option maxRecDepth 100000 in
theorem ct_save_b {l : Launch} {G : GG} {M : MM} {sv : Nat → Sg} {σ : Sg} (hM : Mem M 6 sv) (hB : Bu M 0 σ) : Ct l G yX3_save wsX3_save 2 ([.ref (G.2.2 73), .ref (G.2.2 0)] : List Value) M (fun v M9 => v = none ∧ Mem M9 6 (fun k => if k = 5 then σ else sv (k + 1)) ∧ Of M M9 inK) := by
  have hM5 := Mem_drop hM
  have hb : 3 + (setV (setP M (rotd M.2.2.1)) 73 3 (nI 5)).2.2.1 5 < 9 := by have := hM5.2.2.1 5 (by decide); omega
  have hB9 : Bu (setV (setP M (rotd M.2.2.1)) 73 3 (nI 5)) 0 σ := hB.of (Of.P.tr (Off.of (Off.V (P := fun a => a = 73) rfl))) (fun k hk => by omega)
  have e73 : ∀ M3, Off (setV (setP M (rotd M.2.2.1)) 73 3 (nI 5)) M3 (inB (3 + (setV (setP M (rotd M.2.2.1)) 73 3 (nI 5)).2.2.1 5)) → M3.2.1 73 3 = nI 5 := fun M3 h => by rw [(h.1 73 (by unfold inB; omega)).2]; exact hM5.2.1
  refine Ct.of (cc := cX3_save) (maxL := 2) (ret := none) (lv := [(0, .ref (G.2.2 73)), (1, .ref (G.2.2 0))]) (by decide) rfl rfl (Nat.le_of_ble_eq_true rfl) ?_
  intro pg ev sg mm bl mt cd AZ C hret
  refine j_aload_n C dX3_save_0 rfl ?_
  refine j_getf C dX3_save_1 rfl (by decide) (T := TX3) rfl in_X3_save_X3 (k := 3) (by decide) fl_X3_save_25 rfl rfl ?_
  refine j_top C (_) hM.2.1 ?_
  refine j_bipush C dX3_save_4 (v := nI 6) (by decide) ?_
  refine j_icmp_ltN C dX3_save_6 (tgt := 13) (by decide) (by omega) (by omega) (fun cq6 => absurd cq6 (by omega)) (fun cq6 => ?_)
  refine j_aload_n C dX3_save_9 rfl ?_
  refine j_callV C (ct_dropOldest hM.2.2.1) dX3_save_10 rfl (by decide) (T := TX3) rfl gX3_save_X3_dropOldest rfl kd_X3_dropOldest rfl rfl (Nat.le_of_ble_eq_true rfl) ⟨by decide, by decide⟩ ⟨Nat.zero_le _, Nat.zero_le _⟩ (k_V ?_)
  refine j_aload_n C dX3_save_13 rfl ?_
  refine j_getf C dX3_save_14 rfl (by decide) (T := TX3) rfl in_X3_save_X3 (k := 2) (by decide) fl_X3_save_21 rfl rfl ?_
  refine j_aload_n C dX3_save_17 rfl ?_
  refine j_getf C dX3_save_18 rfl (by decide) (T := TX3) rfl in_X3_save_X3 (k := 3) (by decide) fl_X3_save_25 rfl rfl ?_
  refine j_top C (_) setV_eq ?_
  refine j_aald76 C dX3_save_21 (by omega) ?_
  refine j_aload_n C dX3_save_22 rfl ?_
  refine j_callV C (ct_copyFrom (b := 3 + (setV (setP M (rotd M.2.2.1)) 73 3 (nI 5)).2.2.1 5) (b2 := 0) hb (by decide) (by omega) hB9) dX3_save_23 (cell_B (by omega)) (by unfold NN; omega) (T := TX0) rfl gX3_save_X0_copyFrom rfl kd_X0_copyFrom rfl rfl (Nat.le_of_ble_eq_true rfl) ⟨by decide, by decide⟩ ⟨Nat.zero_le _, Nat.zero_le _⟩ (k_VQ fun M3 hq => ?_)
  obtain ⟨hq1, hq2⟩ := hq
  refine j_aload_n C dX3_save_26 rfl ?_
  refine j_dup C dX3_save_27 rfl ?_
  refine j_getf C dX3_save_28 rfl (by decide) (T := TX3) rfl in_X3_save_X3 (k := 3) (by decide) fl_X3_save_25 rfl rfl ?_
  refine j_top C (_) (e73 M3 hq2) ?_
  refine j_iconst C dX3_save_31 (v := nI 1) (by decide) ?_
  refine j_iaddN C dX3_save_32 ?_
  refine j_putf C dX3_save_33 rfl (by decide) (T := TX3) rfl in_X3_save_X3 tyX3 tyX3_ok nmX3 (k := 3) (by decide) fl_X3_save_25 rfl rfl (by decide +kernel) (Nat.le_of_ble_eq_true rfl) rfl ?_
  exact j_return C hret dX3_save_36 ⟨rfl, Mem_put hM5 (by decide) hq1 hq2, (Of.P.tr (Off.of (Off.V (Or.inr rfl)))).tr ((hq2.of.mono (fun a ha => by unfold inB at ha; unfold inK; omega)).tr (Off.of (Off.V (Or.inr rfl))))⟩

theorem ct_save {l : Launch} {G : GG} {M : MM} {n : Nat} {sv : Nat → Sg} {σ : Sg} (hM : Mem M n sv) (hB : Bu M 0 σ) : Ct l G yX3_save wsX3_save 2 [.ref (G.2.2 73), .ref (G.2.2 0)] M (fun v M9 => v = none ∧ Mem M9 (svN n) (svS n sv σ) ∧ Of M M9 inK) := by
  rcases Nat.lt_or_ge n 6 with h | h
  · exact ct_save_a h hM hB
  · have e : n = 6 := Nat.le_antisymm hM.1 h
    subst e
    exact ct_save_b hM hB

theorem Mem_pop {M M3 : MM} {n : Nat} {sv : Nat → Sg} (hM : Mem M n sv) (hn : 0 < n) (h : Off (setV M 73 3 (nI (n - 1))) M3 (inB 0)) : Mem M3 (n - 1) sv := by
  obtain ⟨h1, h2, h3, h4, h5⟩ := hM
  have ep : M3.2.2.1 = M.2.2.1 := by rw [h.2]; rfl
  refine ⟨by omega, by rw [(h.1 73 (by unfold inB; omega)).2]; exact setV_eq, by rw [ep]; exact h3, by rw [ep]; exact h4, fun k hk => ?_⟩
  rw [ep]
  have := h3 k (by omega)
  exact ((h5 k (by omega)).off (Off.V (P := fun a => a = 73) rfl) (fun j hj => by omega)).off h (fun j hj => by unfold inB; omega)

set_option maxHeartbeats 4000000 in
set_option maxRecDepth 100000 in
theorem ct_restore {l : Launch} {G : GG} {M : MM} {n : Nat} (hn : 0 < n) {sv : Nat → Sg} (hM : Mem M n sv) : Ct l G yX3_restore wsX3_restore 2 ([.ref (G.2.2 73), .ref (G.2.2 0)] : List Value) M (fun v M9 => v = none ∧ Mem M9 (n - 1) sv ∧ Bu M9 0 (sv (n - 1)) ∧ Of M M9 (fun a => inB 0 a ∨ a = 73)) := by
  have hlt := hM.2.2.1 (n - 1) (by have := hM.1; omega)
  have hn6 := hM.1
  have hb2 : 3 + M.2.2.1 (n - 1) < 9 := by omega
  have hB9 : Bu (setV M 73 3 (nI (n - 1))) (3 + M.2.2.1 (n - 1)) (sv (n - 1)) := (hM.2.2.2.2 (n - 1) (by omega)).off (Off.V (P := fun a => a = 73) rfl) (fun j hj => by omega)
  refine Ct.of (cc := cX3_restore) (maxL := 2) (ret := none) (lv := [(0, .ref (G.2.2 73)), (1, .ref (G.2.2 0))]) (by decide) rfl rfl (Nat.le_of_ble_eq_true rfl) ?_
  intro pg ev sg mm bl mt cd AZ C hret
  refine j_aload_n C dX3_restore_0 rfl ?_
  refine j_getf C dX3_restore_1 rfl (by decide) (T := TX3) rfl in_X3_restore_X3 (k := 3) (by decide) fl_X3_restore_25 rfl rfl ?_
  refine j_top C (_) hM.2.1 ?_
  refine j_if_leN C dX3_restore_4 (tgt := 30) (by decide) (by omega) (fun cq4 => absurd cq4 (by omega)) (fun cq4 => ?_)
  refine j_aload_n C dX3_restore_7 rfl ?_
  refine j_dup C dX3_restore_8 rfl ?_
  refine j_getf C dX3_restore_9 rfl (by decide) (T := TX3) rfl in_X3_restore_X3 (k := 3) (by decide) fl_X3_restore_25 rfl rfl ?_
  refine j_top C (_) hM.2.1 ?_
  refine j_iconst C dX3_restore_12 (v := nI 1) (by decide) ?_
  refine j_isubN C dX3_restore_13 (by omega) ?_
  refine j_putf C dX3_restore_14 rfl (by decide) (T := TX3) rfl in_X3_restore_X3 tyX3 tyX3_ok nmX3 (k := 3) (by decide) fl_X3_restore_25 rfl rfl (by decide +kernel) (Nat.le_of_ble_eq_true rfl) rfl ?_
  refine j_aload_n C dX3_restore_17 rfl ?_
  refine j_aload_n C dX3_restore_18 rfl ?_
  refine j_getf C dX3_restore_19 rfl (by decide) (T := TX3) rfl in_X3_restore_X3 (k := 2) (by decide) fl_X3_restore_21 rfl rfl ?_
  refine j_aload_n C dX3_restore_22 rfl ?_
  refine j_getf C dX3_restore_23 rfl (by decide) (T := TX3) rfl in_X3_restore_X3 (k := 3) (by decide) fl_X3_restore_25 rfl rfl ?_
  refine j_top C (_) setV_eq ?_
  refine j_aald76 C dX3_restore_26 (by omega) ?_
  refine j_callV C (ct_copyFrom (b := 0) (b2 := 3 + M.2.2.1 (n - 1)) (by decide) hb2 (by omega) hB9) dX3_restore_27 (cell_B (by decide)) (by decide) (T := TX0) rfl gX3_restore_X0_copyFrom rfl kd_X0_copyFrom rfl rfl (Nat.le_of_ble_eq_true rfl) ⟨by decide, by decide⟩ ⟨Nat.zero_le _, Nat.zero_le _⟩ (k_VQ fun M3 hq => ?_)
  obtain ⟨hq1, hq2⟩ := hq
  exact j_return C hret dX3_restore_30 ⟨rfl, Mem_pop hM hn hq2, hq1, (Off.of (Off.V (Or.inr rfl))).tr (hq2.of.mono (fun a ha => Or.inl ha))⟩
