set_option maxRecDepth 20000 in
theorem ks_X6_isPot : yX6_isPot.cls ≠ "java/lang/invoke/MethodHandle" ∧ yX6_isPot.cls ≠ "java/lang/invoke/VarHandle" ∧ (parseMethodDescriptor yX6_isPot.desc).map (fun d => d.parameters.length) = some 1 := by decide +kernel
set_option maxRecDepth 20000 in
theorem kd_X6_goes : yX6_goes.cls = RX6 ∧ yX6_goes.cls ≠ "java/lang/invoke/MethodHandle" ∧ yX6_goes.cls ≠ "java/lang/invoke/VarHandle" ∧ (parseMethodDescriptor yX6_goes.desc).map (fun d => d.parameters.length) = some 2 := by decide +kernel
set_option maxRecDepth 20000 in
theorem kd_X6_sets : yX6_sets.cls = RX6 ∧ yX6_sets.cls ≠ "java/lang/invoke/MethodHandle" ∧ yX6_sets.cls ≠ "java/lang/invoke/VarHandle" ∧ (parseMethodDescriptor yX6_sets.desc).map (fun d => d.parameters.length) = some 2 := by decide +kernel
set_option maxRecDepth 20000 in
theorem ks_X6_isPainter : yX6_isPainter.cls ≠ "java/lang/invoke/MethodHandle" ∧ yX6_isPainter.cls ≠ "java/lang/invoke/VarHandle" ∧ (parseMethodDescriptor yX6_isPainter.desc).map (fun d => d.parameters.length) = some 1 := by decide +kernel
set_option maxRecDepth 20000 in
theorem in_X6_labelAll_X6 : ∀ w ∈ wsX60, w ∈ wsX6_labelAll := by decide +kernel
set_option maxRecDepth 20000 in
theorem fl_X6_labelAll_7 : Cond.fieldLink RX6 7 "PotLabelsModel" "s" "[I" ∈ wsX6_labelAll := by decide +kernel
set_option maxRecDepth 20000 in
theorem in_X6_hang_X6 : ∀ w ∈ wsX60, w ∈ wsX6_hang := by decide +kernel
set_option maxRecDepth 20000 in
theorem fl_X6_hang_7 : Cond.fieldLink RX6 7 "PotLabelsModel" "s" "[I" ∈ wsX6_hang := by decide +kernel
set_option maxHeartbeats 4000000 in
set_option maxRecDepth 100000 in
theorem cm_mix {l : Launch} {G : GG} {M : MM} {S : SS} (hX : Xm M S) (hO : OkS S) {i k v : Nat} (hi : i < 8) (hk : k ≤ 2) (hv : v ≤ 9) : Ct l G yX6_mix wsX6_mix 4 ([.ref (G.2.2 84), .int (nI i), .int (nI k), .int (nI v)] : List Value) M (fun v9 M9 => v9 = some (.int (nI (pr3 k (S.1 (4 * i)) (S.1 (4 * i + 1)) (S.1 (4 * i + 2))))) ∧ Xm M9 (svW S (setp S.1 i k v)) ∧ Off M M9 inM ∧ M9.2.1 84 5 = nI 0) := by
  have hS := hX.1
  have hW := hO.1
  refine Ct.of (cc := cX6_mix) (maxL := 4) (ret := (some .int)) (lv := [(0, .ref (G.2.2 84)), (1, .int (nI i)), (2, .int (nI k)), (3, .int (nI v))]) (by decide) rfl rfl (Nat.le_of_ble_eq_true rfl) ?_
  intro pg ev sg mm bl mt cd AZ C hret
  refine j_aload_n C dX6_mix_0 rfl ?_
  refine j_iload_n C dX6_mix_1 rfl ?_
  refine j_callS C cm_isPot dX6_mix_2 gX6_mix_X6_isPot rfl ks_X6_isPot rfl rfl (Nat.le_of_ble_eq_true rfl) ⟨by decide, by decide⟩ ⟨Nat.zero_le _, Nat.zero_le _⟩ (k_I ?_)
  refine j_top C (bI true) (congrArg bI (inI_N (by omega) (by omega) (by decide))) ?_
  refine j_iload_n C dX6_mix_5 rfl ?_
  refine j_iconst C dX6_mix_6 (v := nI 0) (by decide) ?_
  refine j_iconst C dX6_mix_7 (v := nI 2) (by decide) ?_
  refine j_callS C cm_in dX6_mix_8 gX6_mix_X6_in rfl ks_X6_in rfl rfl (Nat.le_of_ble_eq_true rfl) ⟨by decide, by decide⟩ ⟨Nat.zero_le _, Nat.zero_le _⟩ (k_I ?_)
  refine j_top C (bI true) (congrArg bI (inI_N (by omega) (by omega) (by decide))) ?_
  refine j_if_eqB C dX6_mix_11 (tgt := 28) (by decide) (fun cq11 => absurd cq11 (by decide)) (fun cq11 => ?_)
  refine j_iload_n C dX6_mix_14 rfl ?_
  refine j_iconst C dX6_mix_15 (v := nI 0) (by decide) ?_
  refine j_bipush C dX6_mix_16 (v := nI 9) (by decide) ?_
  refine j_callS C cm_in dX6_mix_18 gX6_mix_X6_in rfl ks_X6_in rfl rfl (Nat.le_of_ble_eq_true rfl) ⟨by decide, by decide⟩ ⟨Nat.zero_le _, Nat.zero_le _⟩ (k_I ?_)
  refine j_top C (bI true) (congrArg bI (inI_N (by omega) (by omega) (by decide))) ?_
  refine j_if_eqB C dX6_mix_21 (tgt := 28) (by decide) (fun cq21 => absurd cq21 (by decide)) (fun cq21 => ?_)
  refine j_iconst C dX6_mix_24 (v := nI 1) (by decide) ?_
  refine j_top C (bI true) rfl ?_
  refine j_goto C dX6_mix_25 (tgt := 29) (by decide) ?_
  refine j_callV C cm_goes dX6_mix_29 rfl (by decide) (T := TX6) rfl gX6_mix_X6_goes rfl kd_X6_goes rfl rfl (Nat.le_of_ble_eq_true rfl) ⟨by decide, by decide⟩ ⟨Nat.zero_le _, Nat.zero_le _⟩ (k_I ?_)
  refine j_top C (bI true) rfl ?_
  have hX1 : Xm (setV M 84 5 (nI (thr true true))) S := hX.thr
  have hS1 := hX1.1
  refine j_if_eqB C dX6_mix_32 (tgt := 48) (by decide) (fun cq32 => absurd cq32 (by decide)) (fun cq32 => ?_)
  refine j_aload_n C dX6_mix_35 rfl ?_
  refine j_iconst C dX6_mix_36 (v := nI 4) (by decide) ?_
  refine j_iload_n C dX6_mix_37 rfl ?_
  refine j_imulN C dX6_mix_38 ?_
  refine j_iload_n C dX6_mix_39 rfl ?_
  refine j_iaddN C dX6_mix_40 ?_
  refine j_iload_n C dX6_mix_41 rfl ?_
  refine j_callV C (cm_sets hX1.2.1 hX1.1 (by omega)) dX6_mix_42 rfl (by decide) (T := TX6) rfl gX6_mix_X6_sets rfl kd_X6_sets rfl rfl (Nat.le_of_ble_eq_true rfl) ⟨by decide, by decide⟩ ⟨Nat.zero_le _, Nat.zero_le _⟩ (k_IQ fun M4 hq => ?_)
  obtain ⟨M3, hm, ho, rfl⟩ := hq
  have hX3 := hX1.save hm ho
  refine j_goto C dX6_mix_45 (tgt := 49) (by decide) ?_
  exact j_ireturn C hret dX6_mix_49 ⟨congrArg (fun z => some (Value.int z)) (m_pt hX1.1 hi hk), hX3.cur (ks := noJ) (Sm_upN hX3.1 (by omega) (by omega) (by omega)) (Fr.R (by unfold js0; omega)) (fun h => h) (fun h => h), ((Fr.V (js := noJ) (ks := fun k => k = 5) rfl).off.tr ho.off).tr (Off.R (by unfold inM; omega)), ((ho.2.2 5 (by unfold k1; omega)).trans setV_eq)⟩

set_option maxHeartbeats 4000000 in
set_option maxRecDepth 100000 in
theorem cm_painter_0 {l : Launch} {G : GG} {M : MM} {S : SS} (hX : Xm M S) (hO : OkS S) {p v : Nat} (hp : p < 4) (hv : v ≤ 3) : Ct l G yX6_painter wsX6_painter 4 ([.ref (G.2.2 84), .int (nI p), .int (nI 0), .int (nI v)] : List Value) M (fun v9 M9 => v9 = some (.int (nI (S.1 (32 + 3 * p)))) ∧ Xm M9 (svW S (upS S.1 (32 + 3 * p) v)) ∧ Off M M9 inM ∧ M9.2.1 84 5 = nI 0) := by
  have hS := hX.1
  have hW := hO.1
  refine Ct.of (cc := cX6_painter) (maxL := 4) (ret := (some .int)) (lv := [(0, .ref (G.2.2 84)), (1, .int (nI p)), (2, .int (nI 0)), (3, .int (nI v))]) (by decide) rfl rfl (Nat.le_of_ble_eq_true rfl) ?_
  intro pg ev sg mm bl mt cd AZ C hret
  refine j_aload_n C dX6_painter_0 rfl ?_
  refine j_iload_n C dX6_painter_1 rfl ?_
  refine j_callS C cm_isPainter dX6_painter_2 gX6_painter_X6_isPainter rfl ks_X6_isPainter rfl rfl (Nat.le_of_ble_eq_true rfl) ⟨by decide, by decide⟩ ⟨Nat.zero_le _, Nat.zero_le _⟩ (k_I ?_)
  refine j_top C (bI true) (congrArg bI (inI_N (by omega) (by omega) (by decide))) ?_
  refine j_iload_n C dX6_painter_5 rfl ?_
  refine j_iconst C dX6_painter_6 (v := nI 0) (by decide) ?_
  refine j_iconst C dX6_painter_7 (v := nI 1) (by decide) ?_
  refine j_callS C cm_in dX6_painter_8 gX6_painter_X6_in rfl ks_X6_in rfl rfl (Nat.le_of_ble_eq_true rfl) ⟨by decide, by decide⟩ ⟨Nat.zero_le _, Nat.zero_le _⟩ (k_I ?_)
  refine j_top C (bI true) (congrArg bI (inI_N (by omega) (by omega) (by decide))) ?_
  refine j_if_eqB C dX6_painter_11 (tgt := 36) (by decide) (fun cq11 => absurd cq11 (by decide)) (fun cq11 => ?_)
  refine j_iload_n C dX6_painter_14 rfl ?_
  refine j_iconst C dX6_painter_15 (v := nI 0) (by decide) ?_
  refine j_iload_n C dX6_painter_16 rfl ?_
  refine j_if_neN C dX6_painter_17 (tgt := 24) (by decide) (by omega) (fun cq17 => absurd cq17 (by decide)) (fun cq17 => ?_)
  refine j_iconst C dX6_painter_20 (v := nI 3) (by decide) ?_
  refine j_goto C dX6_painter_21 (tgt := 26) (by decide) ?_
  refine j_callS C cm_in dX6_painter_26 gX6_painter_X6_in rfl ks_X6_in rfl rfl (Nat.le_of_ble_eq_true rfl) ⟨by decide, by decide⟩ ⟨Nat.zero_le _, Nat.zero_le _⟩ (k_I ?_)
  refine j_top C (bI true) (congrArg bI (inI_N (by omega) (by omega) (by decide))) ?_
  refine j_if_eqB C dX6_painter_29 (tgt := 36) (by decide) (fun cq29 => absurd cq29 (by decide)) (fun cq29 => ?_)
  refine j_iconst C dX6_painter_32 (v := nI 1) (by decide) ?_
  refine j_top C (bI true) rfl ?_
  refine j_goto C dX6_painter_33 (tgt := 37) (by decide) ?_
  refine j_callV C cm_goes dX6_painter_37 rfl (by decide) (T := TX6) rfl gX6_painter_X6_goes rfl kd_X6_goes rfl rfl (Nat.le_of_ble_eq_true rfl) ⟨by decide, by decide⟩ ⟨Nat.zero_le _, Nat.zero_le _⟩ (k_I ?_)
  refine j_top C (bI true) rfl ?_
  have hX1 : Xm (setV M 84 5 (nI (thr true true))) S := hX.thr
  have hS1 := hX1.1
  refine j_if_eqB C dX6_painter_40 (tgt := 57) (by decide) (fun cq40 => absurd cq40 (by decide)) (fun cq40 => ?_)
  refine j_aload_n C dX6_painter_43 rfl ?_
  refine j_iload_n C dX6_painter_44 rfl ?_
  refine j_callS C cm_at dX6_painter_45 gX6_painter_X6_at rfl ks_X6_at rfl rfl (Nat.le_of_ble_eq_true rfl) ⟨by decide, by decide⟩ ⟨Nat.zero_le _, Nat.zero_le _⟩ (k_I ?_)
  refine j_iload_n C dX6_painter_48 rfl ?_
  refine j_iaddN C dX6_painter_49 ?_
  refine j_iload_n C dX6_painter_50 rfl ?_
  refine j_callV C (cm_sets hX1.2.1 hX1.1 (by omega)) dX6_painter_51 rfl (by decide) (T := TX6) rfl gX6_painter_X6_sets rfl kd_X6_sets rfl rfl (Nat.le_of_ble_eq_true rfl) ⟨by decide, by decide⟩ ⟨Nat.zero_le _, Nat.zero_le _⟩ (k_IQ fun M4 hq => ?_)
  obtain ⟨M3, hm, ho, rfl⟩ := hq
  have hX3 := hX1.save hm ho
  refine j_goto C dX6_painter_54 (tgt := 58) (by decide) ?_
  exact j_ireturn C hret dX6_painter_58 ⟨congrArg (fun z => some (Value.int z)) (m_kd hX1.1 hp), hX3.cur (ks := noJ) (Sm_upN hX3.1 (by omega) (by omega) (by omega)) (Fr.R (by unfold js0; omega)) (fun h => h) (fun h => h), ((Fr.V (js := noJ) (ks := fun k => k = 5) rfl).off.tr ho.off).tr (Off.R (by unfold inM; omega)), ((ho.2.2 5 (by unfold k1; omega)).trans setV_eq)⟩

set_option maxHeartbeats 4000000 in
set_option maxRecDepth 100000 in
theorem cm_painter_1 {l : Launch} {G : GG} {M : MM} {S : SS} (hX : Xm M S) (hO : OkS S) {p v : Nat} (hp : p < 4) (hv : v ≤ 27) : Ct l G yX6_painter wsX6_painter 4 ([.ref (G.2.2 84), .int (nI p), .int (nI 1), .int (nI v)] : List Value) M (fun v9 M9 => v9 = some (.int (nI (S.1 (33 + 3 * p)))) ∧ Xm M9 (svW S (upS S.1 (33 + 3 * p) v)) ∧ Off M M9 inM ∧ M9.2.1 84 5 = nI 0) := by
  have hS := hX.1
  have hW := hO.1
  refine Ct.of (cc := cX6_painter) (maxL := 4) (ret := (some .int)) (lv := [(0, .ref (G.2.2 84)), (1, .int (nI p)), (2, .int (nI 1)), (3, .int (nI v))]) (by decide) rfl rfl (Nat.le_of_ble_eq_true rfl) ?_
  intro pg ev sg mm bl mt cd AZ C hret
  refine j_aload_n C dX6_painter_0 rfl ?_
  refine j_iload_n C dX6_painter_1 rfl ?_
  refine j_callS C cm_isPainter dX6_painter_2 gX6_painter_X6_isPainter rfl ks_X6_isPainter rfl rfl (Nat.le_of_ble_eq_true rfl) ⟨by decide, by decide⟩ ⟨Nat.zero_le _, Nat.zero_le _⟩ (k_I ?_)
  refine j_top C (bI true) (congrArg bI (inI_N (by omega) (by omega) (by decide))) ?_
  refine j_iload_n C dX6_painter_5 rfl ?_
  refine j_iconst C dX6_painter_6 (v := nI 0) (by decide) ?_
  refine j_iconst C dX6_painter_7 (v := nI 1) (by decide) ?_
  refine j_callS C cm_in dX6_painter_8 gX6_painter_X6_in rfl ks_X6_in rfl rfl (Nat.le_of_ble_eq_true rfl) ⟨by decide, by decide⟩ ⟨Nat.zero_le _, Nat.zero_le _⟩ (k_I ?_)
  refine j_top C (bI true) (congrArg bI (inI_N (by omega) (by omega) (by decide))) ?_
  refine j_if_eqB C dX6_painter_11 (tgt := 36) (by decide) (fun cq11 => absurd cq11 (by decide)) (fun cq11 => ?_)
  refine j_iload_n C dX6_painter_14 rfl ?_
  refine j_iconst C dX6_painter_15 (v := nI 0) (by decide) ?_
  refine j_iload_n C dX6_painter_16 rfl ?_
  refine j_if_neN C dX6_painter_17 (tgt := 24) (by decide) (by omega) (fun cq17 => ?_) (fun cq17 => absurd cq17 (by decide))
  refine j_bipush C dX6_painter_24 (v := nI 27) (by decide) ?_
  refine j_callS C cm_in dX6_painter_26 gX6_painter_X6_in rfl ks_X6_in rfl rfl (Nat.le_of_ble_eq_true rfl) ⟨by decide, by decide⟩ ⟨Nat.zero_le _, Nat.zero_le _⟩ (k_I ?_)
  refine j_top C (bI true) (congrArg bI (inI_N (by omega) (by omega) (by decide))) ?_
  refine j_if_eqB C dX6_painter_29 (tgt := 36) (by decide) (fun cq29 => absurd cq29 (by decide)) (fun cq29 => ?_)
  refine j_iconst C dX6_painter_32 (v := nI 1) (by decide) ?_
  refine j_top C (bI true) rfl ?_
  refine j_goto C dX6_painter_33 (tgt := 37) (by decide) ?_
  refine j_callV C cm_goes dX6_painter_37 rfl (by decide) (T := TX6) rfl gX6_painter_X6_goes rfl kd_X6_goes rfl rfl (Nat.le_of_ble_eq_true rfl) ⟨by decide, by decide⟩ ⟨Nat.zero_le _, Nat.zero_le _⟩ (k_I ?_)
  refine j_top C (bI true) rfl ?_
  have hX1 : Xm (setV M 84 5 (nI (thr true true))) S := hX.thr
  have hS1 := hX1.1
  refine j_if_eqB C dX6_painter_40 (tgt := 57) (by decide) (fun cq40 => absurd cq40 (by decide)) (fun cq40 => ?_)
  refine j_aload_n C dX6_painter_43 rfl ?_
  refine j_iload_n C dX6_painter_44 rfl ?_
  refine j_callS C cm_at dX6_painter_45 gX6_painter_X6_at rfl ks_X6_at rfl rfl (Nat.le_of_ble_eq_true rfl) ⟨by decide, by decide⟩ ⟨Nat.zero_le _, Nat.zero_le _⟩ (k_I ?_)
  refine j_iload_n C dX6_painter_48 rfl ?_
  refine j_iaddN C dX6_painter_49 ?_
  refine j_iload_n C dX6_painter_50 rfl ?_
  refine j_callV C (cm_sets hX1.2.1 hX1.1 (by omega)) dX6_painter_51 rfl (by decide) (T := TX6) rfl gX6_painter_X6_sets rfl kd_X6_sets rfl rfl (Nat.le_of_ble_eq_true rfl) ⟨by decide, by decide⟩ ⟨Nat.zero_le _, Nat.zero_le _⟩ (k_IQ fun M4 hq => ?_)
  obtain ⟨M3, hm, ho, rfl⟩ := hq
  have hX3 := hX1.save hm ho
  refine j_goto C dX6_painter_54 (tgt := 58) (by decide) ?_
  exact j_ireturn C hret dX6_painter_58 ⟨congrArg (fun z => some (Value.int z)) (m_sh hX1.1 hp), hX3.cur (ks := noJ) (by rw [show 33 + 3 * p = 32 + 3 * p + 1 by omega]; exact Sm_upN hX3.1 (by omega) (by omega) (by omega)) (Fr.R (by unfold js0; omega)) (fun h => h) (fun h => h), ((Fr.V (js := noJ) (ks := fun k => k = 5) rfl).off.tr ho.off).tr (Off.R (by unfold inM; omega)), ((ho.2.2 5 (by unfold k1; omega)).trans setV_eq)⟩

set_option maxHeartbeats 4000000 in
set_option maxRecDepth 100000 in
theorem cm_borrow {l : Launch} {G : GG} {M : MM} {S : SS} (hX : Xm M S) (hO : OkS S) {p q : Nat} (hp : p < 4) (hq : q < 4) : Ct l G yX6_borrow wsX6_borrow 4 ([.ref (G.2.2 84), .int (nI p), .int (nI q)] : List Value) M (fun v9 M9 => v9 = some (.int (oI (S.1 (34 + 3 * p)))) ∧ Xm M9 (svW S (upS S.1 (34 + 3 * p) (brw p q))) ∧ Off M M9 inM ∧ M9.2.1 84 5 = nI 0) := by
  have hS := hX.1
  have hW := hO.1
  refine Ct.of (cc := cX6_borrow) (maxL := 3) (ret := (some .int)) (lv := [(0, .ref (G.2.2 84)), (1, .int (nI p)), (2, .int (nI q))]) (by decide) rfl rfl (Nat.le_of_ble_eq_true rfl) ?_
  intro pg ev sg mm bl mt cd AZ C hret
  refine j_aload_n C dX6_borrow_0 rfl ?_
  refine j_iload_n C dX6_borrow_1 rfl ?_
  refine j_callS C cm_isPainter dX6_borrow_2 gX6_borrow_X6_isPainter rfl ks_X6_isPainter rfl rfl (Nat.le_of_ble_eq_true rfl) ⟨by decide, by decide⟩ ⟨Nat.zero_le _, Nat.zero_le _⟩ (k_I ?_)
  refine j_top C (bI true) (congrArg bI (inI_N (by omega) (by omega) (by decide))) ?_
  refine j_if_eqB C dX6_borrow_5 (tgt := 19) (by decide) (fun cq5 => absurd cq5 (by decide)) (fun cq5 => ?_)
  refine j_iload_n C dX6_borrow_8 rfl ?_
  refine j_callS C cm_isPainter dX6_borrow_9 gX6_borrow_X6_isPainter rfl ks_X6_isPainter rfl rfl (Nat.le_of_ble_eq_true rfl) ⟨by decide, by decide⟩ ⟨Nat.zero_le _, Nat.zero_le _⟩ (k_I ?_)
  refine j_top C (bI true) (congrArg bI (inI_N (by omega) (by omega) (by decide))) ?_
  refine j_if_eqB C dX6_borrow_12 (tgt := 19) (by decide) (fun cq12 => absurd cq12 (by decide)) (fun cq12 => ?_)
  refine j_iconst C dX6_borrow_15 (v := nI 1) (by decide) ?_
  refine j_top C (bI true) rfl ?_
  refine j_goto C dX6_borrow_16 (tgt := 20) (by decide) ?_
  refine j_iconst C dX6_borrow_20 (v := nI 1) (by decide) ?_
  refine j_top C (bI true) rfl ?_
  refine j_callV C cm_goes dX6_borrow_21 rfl (by decide) (T := TX6) rfl gX6_borrow_X6_goes rfl kd_X6_goes rfl rfl (Nat.le_of_ble_eq_true rfl) ⟨by decide, by decide⟩ ⟨Nat.zero_le _, Nat.zero_le _⟩ (k_I ?_)
  refine j_top C (bI true) rfl ?_
  have hX1 : Xm (setV M 84 5 (nI (thr true true))) S := hX.thr
  have hS1 := hX1.1
  refine j_if_eqB C dX6_borrow_24 (tgt := 50) (by decide) (fun cq24 => absurd cq24 (by decide)) (fun cq24 => ?_)
  refine j_aload_n C dX6_borrow_27 rfl ?_
  refine j_iload_n C dX6_borrow_28 rfl ?_
  refine j_callS C cm_at dX6_borrow_29 gX6_borrow_X6_at rfl ks_X6_at rfl rfl (Nat.le_of_ble_eq_true rfl) ⟨by decide, by decide⟩ ⟨Nat.zero_le _, Nat.zero_le _⟩ (k_I ?_)
  refine j_iconst C dX6_borrow_32 (v := nI 2) (by decide) ?_
  refine j_iaddN C dX6_borrow_33 ?_
  refine j_iload_n C dX6_borrow_34 rfl ?_
  refine j_iload_n C dX6_borrow_35 rfl ?_
  refine j_icmp_neN C dX6_borrow_36 (tgt := 43) (by decide) (by omega) (by omega) (fun cq36 => ?_) (fun cq36 => ?_)
  · refine j_iload_n C dX6_borrow_43 rfl ?_
    refine j_top C (oI (brw p q)) (by unfold brw; rw [if_neg (by omega)]; rfl) ?_
    refine j_callV C (cm_sets hX1.2.1 hX1.1 (by omega)) dX6_borrow_44 rfl (by decide) (T := TX6) rfl gX6_borrow_X6_sets rfl kd_X6_sets rfl rfl (Nat.le_of_ble_eq_true rfl) ⟨by decide, by decide⟩ ⟨Nat.zero_le _, Nat.zero_le _⟩ (k_IQ fun M4 hq => ?_)
    obtain ⟨M3, hm, ho, rfl⟩ := hq
    have hX3 := hX1.save hm ho
    refine j_goto C dX6_borrow_47 (tgt := 51) (by decide) ?_
    exact j_ireturn C hret dX6_borrow_51 ⟨congrArg (fun z => some (Value.int z)) (m_ln hX1.1 hp), hX3.cur (ks := noJ) (by rw [show 34 + 3 * p = 32 + 3 * p + 2 by omega]; exact Sm_upO hX3.1 (by omega) (by omega)) (Fr.R (by unfold js0; omega)) (fun h => h) (fun h => h), ((Fr.V (js := noJ) (ks := fun k => k = 5) rfl).off.tr ho.off).tr (Off.R (by unfold inM; omega)), ((ho.2.2 5 (by unfold k1; omega)).trans setV_eq)⟩
  · refine j_iconst C dX6_borrow_39 (v := -1) (by decide) ?_
    refine j_top C (oI (brw p q)) (by unfold brw; rw [if_pos (by omega)]; rfl) ?_
    refine j_goto C dX6_borrow_40 (tgt := 44) (by decide) ?_
    refine j_callV C (cm_sets hX1.2.1 hX1.1 (by omega)) dX6_borrow_44 rfl (by decide) (T := TX6) rfl gX6_borrow_X6_sets rfl kd_X6_sets rfl rfl (Nat.le_of_ble_eq_true rfl) ⟨by decide, by decide⟩ ⟨Nat.zero_le _, Nat.zero_le _⟩ (k_IQ fun M4 hq => ?_)
    obtain ⟨M3, hm, ho, rfl⟩ := hq
    have hX3 := hX1.save hm ho
    refine j_goto C dX6_borrow_47 (tgt := 51) (by decide) ?_
    exact j_ireturn C hret dX6_borrow_51 ⟨congrArg (fun z => some (Value.int z)) (m_ln hX1.1 hp), hX3.cur (ks := noJ) (by rw [show 34 + 3 * p = 32 + 3 * p + 2 by omega]; exact Sm_upO hX3.1 (by omega) (by omega)) (Fr.R (by unfold js0; omega)) (fun h => h) (fun h => h), ((Fr.V (js := noJ) (ks := fun k => k = 5) rfl).off.tr ho.off).tr (Off.R (by unfold inM; omega)), ((ho.2.2 5 (by unfold k1; omega)).trans setV_eq)⟩

set_option maxHeartbeats 4000000 in
set_option maxRecDepth 100000 in
theorem cm_label {l : Launch} {G : GG} {M : MM} {S : SS} (hX : Xm M S) (hO : OkS S) {i v : Nat} (hi : i < 8) (hv : v ≤ 8) : Ct l G yX6_label wsX6_label 4 ([.ref (G.2.2 84), .int (nI i), .int (oI v)] : List Value) M (fun v9 M9 => v9 = some (.int (oI (S.1 (4 * i + 3)))) ∧ Xm M9 (svW S (upS S.1 (4 * i + 3) v)) ∧ Off M M9 inM ∧ M9.2.1 84 5 = nI 0) := by
  have hS := hX.1
  have hW := hO.1
  refine Ct.of (cc := cX6_label) (maxL := 3) (ret := (some .int)) (lv := [(0, .ref (G.2.2 84)), (1, .int (nI i)), (2, .int (oI v))]) (by decide) rfl rfl (Nat.le_of_ble_eq_true rfl) ?_
  intro pg ev sg mm bl mt cd AZ C hret
  refine j_aload_n C dX6_label_0 rfl ?_
  refine j_iload_n C dX6_label_1 rfl ?_
  refine j_callS C cm_isPot dX6_label_2 gX6_label_X6_isPot rfl ks_X6_isPot rfl rfl (Nat.le_of_ble_eq_true rfl) ⟨by decide, by decide⟩ ⟨Nat.zero_le _, Nat.zero_le _⟩ (k_I ?_)
  refine j_top C (bI true) (congrArg bI (inI_N (by omega) (by omega) (by decide))) ?_
  refine j_iload_n C dX6_label_5 rfl ?_
  refine j_iconst C dX6_label_6 (v := -1) (by decide) ?_
  refine j_bipush C dX6_label_7 (v := nI 7) (by decide) ?_
  refine j_callS C cm_in dX6_label_9 gX6_label_X6_in rfl ks_X6_in rfl rfl (Nat.le_of_ble_eq_true rfl) ⟨by decide, by decide⟩ ⟨Nat.zero_le _, Nat.zero_le _⟩ (k_I ?_)
  refine j_top C (bI true) (congrArg bI (inL hv)) ?_
  refine j_callV C cm_goes dX6_label_12 rfl (by decide) (T := TX6) rfl gX6_label_X6_goes rfl kd_X6_goes rfl rfl (Nat.le_of_ble_eq_true rfl) ⟨by decide, by decide⟩ ⟨Nat.zero_le _, Nat.zero_le _⟩ (k_I ?_)
  refine j_top C (bI true) rfl ?_
  have hX1 : Xm (setV M 84 5 (nI (thr true true))) S := hX.thr
  have hS1 := hX1.1
  refine j_if_eqB C dX6_label_15 (tgt := 31) (by decide) (fun cq15 => absurd cq15 (by decide)) (fun cq15 => ?_)
  refine j_aload_n C dX6_label_18 rfl ?_
  refine j_iconst C dX6_label_19 (v := nI 4) (by decide) ?_
  refine j_iload_n C dX6_label_20 rfl ?_
  refine j_imulN C dX6_label_21 ?_
  refine j_iconst C dX6_label_22 (v := nI 3) (by decide) ?_
  refine j_iaddN C dX6_label_23 ?_
  refine j_iload_n C dX6_label_24 rfl ?_
  refine j_callV C (cm_sets hX1.2.1 hX1.1 (by omega)) dX6_label_25 rfl (by decide) (T := TX6) rfl gX6_label_X6_sets rfl kd_X6_sets rfl rfl (Nat.le_of_ble_eq_true rfl) ⟨by decide, by decide⟩ ⟨Nat.zero_le _, Nat.zero_le _⟩ (k_IQ fun M4 hq => ?_)
  obtain ⟨M3, hm, ho, rfl⟩ := hq
  have hX3 := hX1.save hm ho
  refine j_goto C dX6_label_28 (tgt := 32) (by decide) ?_
  exact j_ireturn C hret dX6_label_32 ⟨congrArg (fun z => some (Value.int z)) (m_lb hX1.1 hi), hX3.cur (ks := noJ) (Sm_upO hX3.1 (by omega) (by omega)) (Fr.R (by unfold js0; omega)) (fun h => h) (fun h => h), ((Fr.V (js := noJ) (ks := fun k => k = 5) rfl).off.tr ho.off).tr (Off.R (by unfold inM; omega)), ((ho.2.2 5 (by unfold k1; omega)).trans setV_eq)⟩

theorem lw_lt {b l : Nat} (h : b < 128) (hl : l ≤ 7) (hb : bit b l = true) : l < 7 := by
  rcases Nat.lt_or_ge l 7 with q | q
  · exact q
  · rw [show l = 7 by omega, bit_hi h] at hb; cases hb
theorem lw_eq {σ : Sg} {p i l : Nat} (h : barr (lbS σ p i) p i i < 128) (hl : l ≤ 7) (hb : ∀ j, j < l → bit (barr (lbS σ p i) p i i) j = true) (hf : bit (barr (lbS σ p i) p i i) l = false) : upS (lbS σ p i) (4 * i + 3) (l + 1) = lbS σ p (i + 1) := by
  show _ = upS (lbS σ p i) (4 * i + 3) (low (barr (lbS σ p i) p i i) + 1)
  rw [low_is hl hb (Or.inr hf)]
section JZ
variable {G : GG} {p : Program} {l : Launch} {e : Env} {R : Room} {s : State} {m : MethodId} {args : Array Value} {below : List Frame} {meth : Method} {c : Code} {A : Nat → Prop} {nL : Nat} {Q : State → Prop} {k9 n9 pc : Nat} {lv : List (Nat × Value)} {st : List Value} {M : MM} {cc : ByteArray} {own : String} {Ts : List Cond}
theorem j_icmp_neB1 (C : Cx G p s m args meth c A cc nL own Ts) {b : Bool} {off : Int} {tgt : Nat} (hd : decode cc pc = .ok (.if_icmp .ne off, 3)) (ht : (pc : Int) + off = (tgt : Int))
    (kt : b = false → J G p l e R s m args below meth c A nL Q k9 n9 tgt lv st M) (kf : b = true → J G p l e R s m args below meth c A nL Q k9 n9 (pc + 3) lv st M) : J G p l e R s m args below meth c A nL Q k9 n9 pc lv (.int (nI 1) :: .int (bI b) :: st) M := by
  cases b with
  | true => exact j_icmp_ne C hd ht (fun h => absurd rfl h) (fun _ => kf rfl)
  | false => exact j_icmp_ne C hd ht (fun _ => kt rfl) (fun h => absurd h (by decide))
end JZ

set_option maxHeartbeats 4000000 in
set_option maxRecDepth 100000 in
theorem cm_labelAll {l : Launch} {G : GG} {M : MM} {S : SS} (hX : Xm M S) (hO : OkS S) {p : Nat} (hp : p < 4) : Ct l G yX6_labelAll wsX6_labelAll 6 ([.ref (G.2.2 84), .int (nI p)] : List Value) M (fun v9 M9 => v9 = some (.int (nI (popc (lmask (lbS S.1 p 8))))) ∧ Xm M9 (svW S (lbS S.1 p 8)) ∧ Off M M9 inM ∧ M9.2.1 84 5 = nI 0) := by
  have hS := hX.1
  have hW := hO.1
  refine Ct.of (cc := cX6_labelAll) (maxL := 5) (ret := (some .int)) (lv := [(0, .ref (G.2.2 84)), (1, .int (nI p))]) (by decide) rfl rfl (Nat.le_of_ble_eq_true rfl) ?_
  intro pg ev sg mm bl mt cd AZ C hret
  refine j_aload_n C dX6_labelAll_0 rfl ?_
  refine j_iload_n C dX6_labelAll_1 rfl ?_
  refine j_callS C cm_isPainter dX6_labelAll_2 gX6_labelAll_X6_isPainter rfl ks_X6_isPainter rfl rfl (Nat.le_of_ble_eq_true rfl) ⟨by decide, by decide⟩ ⟨Nat.zero_le _, Nat.zero_le _⟩ (k_I ?_)
  refine j_top C (bI true) (congrArg bI (inI_N (by omega) (by omega) (by decide))) ?_
  refine j_iconst C dX6_labelAll_5 (v := nI 1) (by decide) ?_
  refine j_top C (bI true) rfl ?_
  refine j_callV C cm_goes dX6_labelAll_6 rfl (by decide) (T := TX6) rfl gX6_labelAll_X6_goes rfl kd_X6_goes rfl rfl (Nat.le_of_ble_eq_true rfl) ⟨by decide, by decide⟩ ⟨Nat.zero_le _, Nat.zero_le _⟩ (k_I ?_)
  refine j_top C (bI true) rfl ?_
  have hX1 : Xm (setV M 84 5 (nI (thr true true))) S := hX.thr
  have hS1 := hX1.1
  refine j_if_neB C dX6_labelAll_9 (tgt := 14) (by decide) (fun cq9 => ?_) (fun cq9 => absurd cq9 (by decide))
  refine j_aload_n C dX6_labelAll_14 rfl ?_
  refine j_callV C (cm_saves hX1.2.1 hX1.1) dX6_labelAll_15 rfl (by decide) (T := TX6) rfl gX6_labelAll_X6_saves rfl kd_X6_saves rfl rfl (Nat.le_of_ble_eq_true rfl) ⟨by decide, by decide⟩ ⟨Nat.zero_le _, Nat.zero_le _⟩ (k_VQ fun M3 hq => ?_)
  obtain ⟨hm, ho⟩ := hq
  have hX3 := hX1.save hm ho
  have hS3 : Sm M3 0 S.1 := hX3.1
  refine j_iconst C dX6_labelAll_18 (v := nI 0) (by decide) ?_
  refine j_istore_n C dX6_labelAll_19 (by decide) ?_
  have L20 : ∀ i, i ≤ 8 → ∀ M2 : MM, Sm M2 0 (lbS S.1 p i) → Fr M3 M2 js0 noJ → J G pg l ev (rmD 6) sg mm ([.ref (G.2.2 84), .int (nI p)] : List Value).toArray bl mt cd AZ 5 (MQ bl (QQ G (fun v9 M9 => v9 = some (.int (nI (popc (lmask (lbS S.1 p 8))))) ∧ Xm M9 (svW S (lbS S.1 p 8)) ∧ Off M M9 inM ∧ M9.2.1 84 5 = nI 0) AZ) ([.ref (G.2.2 84), .int (nI p)] : List Value).toArray sg 0 0 AZ) 0 0 20 [(0, .ref (G.2.2 84)), (1, .int (nI p)), (2, .int (nI i))] [] (M2) := by
    refine dnto ?_
    intro i hi20 ih20 M2 hS2 hF2
    refine j_iload_n C dX6_labelAll_20 rfl ?_
    refine j_bipush C dX6_labelAll_21 (v := nI 8) (by decide) ?_
    refine j_icmp_geN C dX6_labelAll_23 (tgt := 106) (by decide) (by omega) (by omega) (fun cq23 => ?_) (fun cq23 => ?_)
    · refine j_aload_n C dX6_labelAll_106 rfl ?_
      have e8 : i = 8 := by omega
      subst e8
      refine j_callV C (cm_unlike hS2 (hW.lbS (p := p) (n := 8) (by decide))) dX6_labelAll_107 rfl (by decide) (T := TX6) rfl gX6_labelAll_X6_unlike rfl kd_X6_unlike rfl rfl (Nat.le_of_ble_eq_true rfl) ⟨by decide, by decide⟩ ⟨Nat.zero_le _, Nat.zero_le _⟩ (k_I ?_)
      exact j_ireturn C hret dX6_labelAll_110 ⟨rfl, hX3.cur (ks := noJ) hS2 hF2 (fun h => h) (fun h => h), ((Fr.V (js := noJ) (ks := fun k => k = 5) rfl).off.tr ho.off).tr hF2.off, (hF2.2.2 5 (fun h => h)).trans ((ho.2.2 5 (by unfold k1; omega)).trans setV_eq)⟩
    · have hW2 := hW.lbS (p := p) (n := i) (by omega)
      refine j_iconst C dX6_labelAll_26 (v := nI 0) (by decide) ?_
      refine j_istore_n C dX6_labelAll_27 (by decide) ?_
      refine j_iconst C dX6_labelAll_28 (v := nI 0) (by decide) ?_
      refine j_istore C dX6_labelAll_29 (by decide) ?_
      have L31 : ∀ a, a ≤ i → ∀ acc, acc = barr (lbS S.1 p i) p i a → acc < 128 → J G pg l ev (rmD 6) sg mm ([.ref (G.2.2 84), .int (nI p)] : List Value).toArray bl mt cd AZ 5 (MQ bl (QQ G (fun v9 M9 => v9 = some (.int (nI (popc (lmask (lbS S.1 p 8))))) ∧ Xm M9 (svW S (lbS S.1 p 8)) ∧ Off M M9 inM ∧ M9.2.1 84 5 = nI 0) AZ) ([.ref (G.2.2 84), .int (nI p)] : List Value).toArray sg 0 0 AZ) 0 0 31 [(0, .ref (G.2.2 84)), (1, .int (nI p)), (2, .int (nI i)), (3, .int (nI acc)), (4, .int (nI a))] [] (M2) := by
        refine dnto ?_
        intro a ha31 ih31 acc hacc hlt
        refine j_iload C dX6_labelAll_31 rfl ?_
        refine j_iload_n C dX6_labelAll_33 rfl ?_
        refine j_icmp_geN C dX6_labelAll_34 (tgt := 69) (by decide) (by omega) (by omega) (fun cq34 => ?_) (fun cq34 => ?_)
        · have e9 : acc = barr (lbS S.1 p i) p i i := by rw [hacc, show a = i by omega]
          subst e9
          refine j_iconst C dX6_labelAll_69 (v := nI 0) (by decide) ?_
          refine j_istore C dX6_labelAll_70 (by decide) ?_
          have L72 : ∀ l9, l9 ≤ 7 → (∀ j, j < l9 → bit (barr (lbS S.1 p i) p i i) j = true) → J G pg l ev (rmD 6) sg mm ([.ref (G.2.2 84), .int (nI p)] : List Value).toArray bl mt cd AZ 5 (MQ bl (QQ G (fun v9 M9 => v9 = some (.int (nI (popc (lmask (lbS S.1 p 8))))) ∧ Xm M9 (svW S (lbS S.1 p 8)) ∧ Off M M9 inM ∧ M9.2.1 84 5 = nI 0) AZ) ([.ref (G.2.2 84), .int (nI p)] : List Value).toArray sg 0 0 AZ) 0 0 72 [(0, .ref (G.2.2 84)), (1, .int (nI p)), (2, .int (nI i)), (3, .int (nI (barr (lbS S.1 p i) p i i))), (4, .int (nI l9))] [] (M2) := by
            refine dnto ?_
            intro l9 hl9 ih72 hb9
            refine j_iload_n C dX6_labelAll_72 rfl ?_
            refine j_iload C dX6_labelAll_73 rfl ?_
            refine j_ishr C dX6_labelAll_75 ?_
            refine j_top C (_) (nI_shr (by omega) (by omega)) ?_
            refine j_iconst C dX6_labelAll_76 (v := nI 1) (by decide) ?_
            refine j_iand C dX6_labelAll_77 ?_
            refine j_top C (_) ((nI_and (Nat.lt_of_le_of_lt (Nat.div_le_self _ _) (by omega)) (by decide)).trans (bit_and _ l9)) ?_
            refine j_iconst C dX6_labelAll_78 (v := nI 1) (by decide) ?_
            refine j_icmp_neB1 C dX6_labelAll_79 (tgt := 88) (by decide) (fun cq79 => ?_) (fun cq79 => ?_)
            · refine j_aload_n C dX6_labelAll_88 rfl ?_
              refine j_getf C dX6_labelAll_89 rfl (by decide) (T := TX6) rfl in_X6_labelAll_X6 (k := 0) (by decide) fl_X6_labelAll_7 rfl rfl ?_
              refine j_iconst C dX6_labelAll_92 (v := nI 4) (by decide) ?_
              refine j_iload_n C dX6_labelAll_93 rfl ?_
              refine j_imulN C dX6_labelAll_94 ?_
              refine j_iconst C dX6_labelAll_95 (v := nI 3) (by decide) ?_
              refine j_iaddN C dX6_labelAll_96 ?_
              refine j_iload C dX6_labelAll_97 rfl ?_
              refine j_iastN C dX6_labelAll_99 (show ilen 85 = some 531 from rfl) (by omega) (by decide) ?_
              refine j_iincN C dX6_labelAll_100 rfl (by decide) ?_
              refine j_goto C dX6_labelAll_103 (tgt := 20) (by decide) ?_
              exact j_pick [0, 1, 2] (ih20 (by omega) _ (by rw [← lw_eq hlt hl9 hb9 cq79]; exact Sm_upO (v := l9 + 1) hS2 (by omega) (by omega)) (hF2.tr (Fr.R (by unfold js0; omega))))
            · refine j_iincN C dX6_labelAll_82 rfl (by decide) ?_
              refine j_goto C dX6_labelAll_85 (tgt := 72) (by decide) ?_
              exact ih72 (lw_lt hlt hl9 cq79) (fun j hj => (Nat.lt_or_ge j l9).elim (hb9 j) (fun q => by rw [show j = l9 by omega]; exact cq79))
          exact L72 0 (by omega) (fun j hj => absurd hj (Nat.not_lt_zero j))
        · refine j_iload_n C dX6_labelAll_37 rfl ?_
          refine j_aload_n C dX6_labelAll_38 rfl ?_
          refine j_iload_n C dX6_labelAll_39 rfl ?_
          refine j_iload_n C dX6_labelAll_40 rfl ?_
          refine j_iload C dX6_labelAll_41 rfl ?_
          refine j_callV C (cm_areApart hS2 hW2 hp (by omega) (by omega)) dX6_labelAll_43 rfl (by decide) (T := TX6) rfl gX6_labelAll_X6_areApart rfl kd_X6_areApart rfl rfl (Nat.le_of_ble_eq_true rfl) ⟨by decide, by decide⟩ ⟨Nat.zero_le _, Nat.zero_le _⟩ (k_I ?_)
          refine j_if_eqB C dX6_labelAll_46 (tgt := 60) (by decide) (fun cq46 => ?_) (fun cq46 => ?_)
          · refine j_iconst C dX6_labelAll_60 (v := nI 0) (by decide) ?_
            refine j_ior C dX6_labelAll_61 ?_
            refine j_top C (_) (nI_or (by omega) (by first | decide | exact Nat.pow_lt_pow_right (by decide) (by show lbS S.1 p i (4 * a + 3) - 1 < 31; omega))) ?_
            refine j_istore_n C dX6_labelAll_62 (by decide) ?_
            refine j_iincN C dX6_labelAll_63 rfl (by decide) ?_
            refine j_goto C dX6_labelAll_66 (tgt := 31) (by decide) ?_
            exact ih31 (by omega) _ (or_t hacc (by show cond _ _ _ = _; rw [ap_sym, cq46]; rfl)) (Nat.or_lt_two_pow (n := 7) hlt (by decide))
          · have hle := lbS_le (σ := S.1) (p := p) (n := i) (by omega) cq34
            have hat := lbS_at (σ := S.1) (p := p) cq34
            refine j_iconst C dX6_labelAll_49 (v := nI 1) (by decide) ?_
            refine j_aload_n C dX6_labelAll_50 rfl ?_
            refine j_iload C dX6_labelAll_51 rfl ?_
            refine j_callV C (cm_labelOf hS2 hW2 (by omega)) dX6_labelAll_53 rfl (by decide) (T := TX6) rfl gX6_labelAll_X6_labelOf rfl kd_X6_labelOf rfl rfl (Nat.le_of_ble_eq_true rfl) ⟨by decide, by decide⟩ ⟨Nat.zero_le _, Nat.zero_le _⟩ (k_I ?_)
            refine j_top C (_) (oI_pos (by show ¬ lbS S.1 p i (4 * a + 3) = 0; omega)) ?_
            refine j_ishl C dX6_labelAll_56 ?_
            refine j_top C (_) (nI_shl1 (by show lbS S.1 p i (4 * a + 3) - 1 < 31; omega)) ?_
            refine j_goto C dX6_labelAll_57 (tgt := 61) (by decide) ?_
            refine j_ior C dX6_labelAll_61 ?_
            refine j_top C (_) (nI_or (by omega) (by first | decide | exact Nat.pow_lt_pow_right (by decide) (by show lbS S.1 p i (4 * a + 3) - 1 < 31; omega))) ?_
            refine j_istore_n C dX6_labelAll_62 (by decide) ?_
            refine j_iincN C dX6_labelAll_63 rfl (by decide) ?_
            refine j_goto C dX6_labelAll_66 (tgt := 31) (by decide) ?_
            exact ih31 (by omega) _ (or_t hacc (by show cond _ _ _ = _; rw [ap_sym, cq46]; rfl)) (Nat.or_lt_two_pow (n := 7) hlt (Nat.pow_lt_pow_right (by decide) (by have hlb : lab (lbS S.1 p i) a ≤ a + 1 := hle; omega)))
      exact L31 0 (by omega) 0 rfl (by omega)
  exact L20 0 (by omega) M3 hS3 Fr.rf

set_option maxHeartbeats 4000000 in
set_option maxRecDepth 100000 in
theorem cm_hang {l : Launch} {G : GG} {M : MM} {S : SS} (hX : Xm M S) (hO : OkS S) {i j : Nat} (hi : i < 8) (hj : j < 8) (hne : ¬ i = j) : Ct l G yX6_hang wsX6_hang 4 ([.ref (G.2.2 84), .int (nI i), .int (nI j)] : List Value) M (fun v9 M9 => v9 = some (.int (adR S.1)) ∧ Xm M9 (svW S (adS S.1 i j)) ∧ Off M M9 inM ∧ M9.2.1 84 5 = nI 0) := by
  have hS := hX.1
  have hW := hO.1
  have h44 := hW.2.2.1
  refine Ct.of (cc := cX6_hang) (maxL := 3) (ret := (some .int)) (lv := [(0, .ref (G.2.2 84)), (1, .int (nI i)), (2, .int (nI j))]) (by decide) rfl rfl (Nat.le_of_ble_eq_true rfl) ?_
  intro pg ev sg mm bl mt cd AZ C hret
  refine j_aload_n C dX6_hang_0 rfl ?_
  refine j_iload_n C dX6_hang_1 rfl ?_
  refine j_callS C cm_isPot dX6_hang_2 gX6_hang_X6_isPot rfl ks_X6_isPot rfl rfl (Nat.le_of_ble_eq_true rfl) ⟨by decide, by decide⟩ ⟨Nat.zero_le _, Nat.zero_le _⟩ (k_I ?_)
  refine j_top C (bI true) (congrArg bI (inI_N (by omega) (by omega) (by decide))) ?_
  refine j_if_eqB C dX6_hang_5 (tgt := 19) (by decide) (fun cq5 => absurd cq5 (by decide)) (fun cq5 => ?_)
  refine j_iload_n C dX6_hang_8 rfl ?_
  refine j_callS C cm_isPot dX6_hang_9 gX6_hang_X6_isPot rfl ks_X6_isPot rfl rfl (Nat.le_of_ble_eq_true rfl) ⟨by decide, by decide⟩ ⟨Nat.zero_le _, Nat.zero_le _⟩ (k_I ?_)
  refine j_top C (bI true) (congrArg bI (inI_N (by omega) (by omega) (by decide))) ?_
  refine j_if_eqB C dX6_hang_12 (tgt := 19) (by decide) (fun cq12 => absurd cq12 (by decide)) (fun cq12 => ?_)
  refine j_iconst C dX6_hang_15 (v := nI 1) (by decide) ?_
  refine j_top C (bI true) rfl ?_
  refine j_goto C dX6_hang_16 (tgt := 20) (by decide) ?_
  refine j_iload_n C dX6_hang_20 rfl ?_
  refine j_iload_n C dX6_hang_21 rfl ?_
  refine j_icmp_eqN C dX6_hang_22 (tgt := 29) (by decide) (by omega) (by omega) (fun q => absurd q hne) (fun _ => ?_)
  refine j_iconst C dX6_hang_25 (v := nI 1) (by decide) ?_
  refine j_top C (bI true) rfl ?_
  refine j_goto C dX6_hang_26 (tgt := 30) (by decide) ?_
  refine j_callV C cm_goes dX6_hang_30 rfl (by decide) (T := TX6) rfl gX6_hang_X6_goes rfl kd_X6_goes rfl rfl (Nat.le_of_ble_eq_true rfl) ⟨by decide, by decide⟩ ⟨Nat.zero_le _, Nat.zero_le _⟩ (k_I ?_)
  refine j_top C (bI true) rfl ?_
  have hX1 : Xm (setV M 84 5 (nI (thr true true))) S := hX.thr
  have hS1 := hX1.1
  refine j_if_neB C dX6_hang_33 (tgt := 38) (by decide) (fun cq33 => ?_) (fun cq33 => absurd cq33 (by decide))
  refine j_aload_n C dX6_hang_38 rfl ?_
  refine j_callV C (cm_saves hX1.2.1 hX1.1) dX6_hang_39 rfl (by decide) (T := TX6) rfl gX6_hang_X6_saves rfl kd_X6_saves rfl rfl (Nat.le_of_ble_eq_true rfl) ⟨by decide, by decide⟩ ⟨Nat.zero_le _, Nat.zero_le _⟩ (k_VQ fun M3 hq => ?_)
  obtain ⟨hm, ho⟩ := hq
  have hX3 := hX1.save hm ho
  have hS3 : Sm M3 0 S.1 := hX3.1
  refine j_aload_n C dX6_hang_42 rfl ?_
  refine j_getf C dX6_hang_43 rfl (by decide) (T := TX6) rfl in_X6_hang_X6 (k := 0) (by decide) fl_X6_hang_7 rfl rfl ?_
  refine j_bipush C dX6_hang_46 (v := nI 44) (by decide) ?_
  refine j_ialdN C dX6_hang_48 (show ilen 85 = some 531 from rfl) (by omega) (by decide) ?_
  refine j_top C _ (m_ch hS3) ?_
  refine j_bipush C dX6_hang_49 (v := nI 6) (by decide) ?_
  refine j_icmp_neN C dX6_hang_51 (tgt := 67) (by decide) (by omega) (by omega) (fun cq51 => ?_) (fun cq51 => ?_)
  · refine j_aload_n C dX6_hang_67 rfl ?_
    refine j_getf C dX6_hang_68 rfl (by decide) (T := TX6) rfl in_X6_hang_X6 (k := 0) (by decide) fl_X6_hang_7 rfl rfl ?_
    refine j_bipush C dX6_hang_71 (v := nI 45) (by decide) ?_
    refine j_iconst C dX6_hang_73 (v := nI 2) (by decide) ?_
    refine j_aload_n C dX6_hang_74 rfl ?_
    refine j_getf C dX6_hang_75 rfl (by decide) (T := TX6) rfl in_X6_hang_X6 (k := 0) (by decide) fl_X6_hang_7 rfl rfl ?_
    refine j_bipush C dX6_hang_78 (v := nI 44) (by decide) ?_
    refine j_ialdN C dX6_hang_80 (show ilen 85 = some 531 from rfl) (by omega) (by decide) ?_
    refine j_top C _ (m_ch hS3) ?_
    refine j_imulN C dX6_hang_81 ?_
    refine j_iaddN C dX6_hang_82 ?_
    refine j_iload_n C dX6_hang_83 rfl ?_
    refine j_iastN C dX6_hang_84 (show ilen 85 = some 531 from rfl) (by omega) (by decide) ?_
    have hS4 := Sm_upN (k := 45 + 2 * S.1 44) (v := i) hS3 (by omega) (by omega) (by omega)
    have e44 : upS S.1 (45 + 2 * S.1 44) i 44 = S.1 44 := upS_ne (by omega)
    refine j_aload_n C dX6_hang_85 rfl ?_
    refine j_getf C dX6_hang_86 rfl (by decide) (T := TX6) rfl in_X6_hang_X6 (k := 0) (by decide) fl_X6_hang_7 rfl rfl ?_
    refine j_bipush C dX6_hang_89 (v := nI 45) (by decide) ?_
    refine j_iconst C dX6_hang_91 (v := nI 2) (by decide) ?_
    refine j_aload_n C dX6_hang_92 rfl ?_
    refine j_getf C dX6_hang_93 rfl (by decide) (T := TX6) rfl in_X6_hang_X6 (k := 0) (by decide) fl_X6_hang_7 rfl rfl ?_
    refine j_bipush C dX6_hang_96 (v := nI 44) (by decide) ?_
    refine j_ialdN C dX6_hang_98 (show ilen 85 = some 531 from rfl) (by omega) (by decide) ?_
    refine j_top C _ ((m_ch hS4).trans (congrArg nI e44)) ?_
    refine j_imulN C dX6_hang_99 ?_
    refine j_iaddN C dX6_hang_100 ?_
    refine j_iconst C dX6_hang_101 (v := nI 1) (by decide) ?_
    refine j_iaddN C dX6_hang_102 ?_
    refine j_iload_n C dX6_hang_103 rfl ?_
    refine j_iastN C dX6_hang_104 (show ilen 85 = some 531 from rfl) (by omega) (by decide) ?_
    have hS5 := Sm_upN (k := 45 + 2 * S.1 44 + 1) (v := j) hS4 (by omega) (by omega) (by omega)
    have e45 : upS (upS S.1 (45 + 2 * S.1 44) i) (45 + 2 * S.1 44 + 1) j 44 = S.1 44 := (upS_ne (by omega)).trans e44
    refine j_aload_n C dX6_hang_105 rfl ?_
    refine j_getf C dX6_hang_106 rfl (by decide) (T := TX6) rfl in_X6_hang_X6 (k := 0) (by decide) fl_X6_hang_7 rfl rfl ?_
    refine j_bipush C dX6_hang_109 (v := nI 44) (by decide) ?_
    refine j_dup2 C dX6_hang_111 rfl rfl ?_
    refine j_ialdN C dX6_hang_112 (show ilen 85 = some 531 from rfl) (by omega) (by decide) ?_
    refine j_top C _ ((m_ch hS5).trans (congrArg nI e45)) ?_
    refine j_iconst C dX6_hang_113 (v := nI 1) (by decide) ?_
    refine j_iaddN C dX6_hang_114 ?_
    refine j_iastN C dX6_hang_115 (show ilen 85 = some 531 from rfl) (by omega) (by decide) ?_
    have hS6 := Sm_upN (k := 44) (v := S.1 44 + 1) hS5 (by decide) (by decide) (by decide)
    refine j_aload_n C dX6_hang_116 rfl ?_
    refine j_getf C dX6_hang_117 rfl (by decide) (T := TX6) rfl in_X6_hang_X6 (k := 0) (by decide) fl_X6_hang_7 rfl rfl ?_
    refine j_bipush C dX6_hang_120 (v := nI 44) (by decide) ?_
    refine j_ialdN C dX6_hang_122 (show ilen 85 = some 531 from rfl) (by omega) (by decide) ?_
    refine j_top C _ ((m_ch hS6).trans (congrArg nI upS_eq)) ?_
    refine j_iconst C dX6_hang_123 (v := nI 1) (by decide) ?_
    refine j_isubN C dX6_hang_124 (by omega) ?_
    exact j_ireturn C hret dX6_hang_125 ⟨by unfold adR; rw [if_neg (by omega)]; rfl, hX3.cur (ks := noJ) (by unfold adS; rw [if_neg (by omega), show 46 + 2 * S.1 44 = 45 + 2 * S.1 44 + 1 by omega]; exact hS6) (((Fr.R (by unfold js0; omega)).tr (Fr.R (by unfold js0; omega))).tr (Fr.R (by unfold js0; omega))) (fun h => h) (fun h => h), ((Fr.V (js := noJ) (ks := fun k => k = 5) rfl).off.tr ho.off).tr (((Off.R (by unfold inM; omega)).tr (Off.R (by unfold inM; omega))).tr (Off.R (by unfold inM; omega))), ((ho.2.2 5 (by unfold k1; omega)).trans setV_eq)⟩
  · refine j_aload_n C dX6_hang_54 rfl ?_
    refine j_getf C dX6_hang_55 rfl (by decide) (T := TX6) rfl in_X6_hang_X6 (k := 0) (by decide) fl_X6_hang_7 rfl rfl ?_
    refine j_bipush C dX6_hang_58 (v := nI 58) (by decide) ?_
    refine j_dup2 C dX6_hang_60 rfl rfl ?_
    refine j_ialdN C dX6_hang_61 (show ilen 85 = some 531 from rfl) (by omega) (by decide) ?_
    refine j_top C _ (m_re hS3) ?_
    refine j_iconst C dX6_hang_62 (v := nI 1) (by decide) ?_
    refine j_iaddN C dX6_hang_63 ?_
    refine j_iastN C dX6_hang_64 (show ilen 85 = some 531 from rfl) (by omega) (by decide) ?_
    refine j_iconst C dX6_hang_65 (v := -1) (by decide) ?_
    exact j_ireturn C hret dX6_hang_66 ⟨by unfold adR; rw [if_pos (by omega)], hX3.cur (ks := noJ) (by unfold adS; rw [if_pos (by omega)]; exact Sm_upN hS3 (by decide) (by decide) (by decide)) (Fr.R (by unfold js0; omega)) (fun h => h) (fun h => h), ((Fr.V (js := noJ) (ks := fun k => k = 5) rfl).off.tr ho.off).tr (Off.R (by unfold inM; omega)), ((ho.2.2 5 (by unfold k1; omega)).trans setV_eq)⟩
