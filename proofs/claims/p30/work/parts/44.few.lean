set_option maxRecDepth 20000 in
theorem in_X5_fewest_X5 : ∀ w ∈ wsX50, w ∈ wsX5_fewest := by decide +kernel
set_option maxRecDepth 20000 in
theorem fl_X5_fewest_33 : Cond.fieldLink RX5 33 "PotLabels" "labelling" "LPotLabels$Labelling;" ∈ wsX5_fewest := by decide +kernel
set_option maxRecDepth 20000 in
theorem fl_X5_fewest_12 : Cond.fieldLink RX5 12 "PotLabels" "bureau" "LPotLabels$Bureau;" ∈ wsX5_fewest := by decide +kernel
set_option maxRecDepth 20000 in
theorem kd_X2_look : yX2_look.cls = RX2 ∧ yX2_look.cls ≠ "java/lang/invoke/MethodHandle" ∧ yX2_look.cls ≠ "java/lang/invoke/VarHandle" ∧ (parseMethodDescriptor yX2_look.desc).map (fun d => d.parameters.length) = some 2 := by decide +kernel
set_option maxRecDepth 20000 in
theorem kd_X2_fewestBySets : yX2_fewestBySets.cls = RX2 ∧ yX2_fewestBySets.cls ≠ "java/lang/invoke/MethodHandle" ∧ yX2_fewestBySets.cls ≠ "java/lang/invoke/VarHandle" ∧ (parseMethodDescriptor yX2_fewestBySets.desc).map (fun d => d.parameters.length) = some 0 := by decide +kernel
set_option maxRecDepth 20000 in
theorem kd_X2_fewestByTrying : yX2_fewestByTrying.cls = RX2 ∧ yX2_fewestByTrying.cls ≠ "java/lang/invoke/MethodHandle" ∧ yX2_fewestByTrying.cls ≠ "java/lang/invoke/VarHandle" ∧ (parseMethodDescriptor yX2_fewestByTrying.desc).map (fun d => d.parameters.length) = some 0 := by decide +kernel
theorem chi_fn {R : Nat → Nat → Bool} (hr : ∀ i, R i i = false) : ∃ nd : Nat → Nat, ∀ m, Chi R (bit m) (nd m) := ⟨fun m => Classical.choose (Chi.ex hr (bit m)), fun m => Classical.choose_spec (Chi.ex hr (bit m))⟩
theorem b255 : ∀ i, i < 8 → bit 255 i = true := by decide +kernel

set_option maxHeartbeats 4000000 in
set_option maxRecDepth 100000 in
theorem ct_fewest_0 {l : Launch} {G : GG} {M : MM} {S : SS} (hX : Xc M S) (hO : OkS S) {p cp : Nat} (hk : Chi (ap S.1 p) (fun _ => true) cp) (hp : p < 4) : Ct l G yX5_fewest wsX5_fewest 11 ([.ref (G.2.2 72), .int (nI p), .int (nI 0)] : List Value) M (fun v9 M9 => v9 = some (.int (nI cp)) ∧ Xc M9 S ∧ Of M M9 inX) := by
  have hB := hX.1
  have hW := hO.1
  have hy := ap_sym S.1 p
  have hr := ap_self S.1 p
  obtain ⟨nd, hnd⟩ := chi_fn hr
  refine Ct.of (cc := cX5_fewest) (maxL := 3) (ret := (some .int)) (lv := [(0, .ref (G.2.2 72)), (1, .int (nI p)), (2, .int (nI 0))]) (by decide) rfl rfl (Nat.le_of_ble_eq_true rfl) ?_
  intro pg ev sg mm bl mt cd AZ C hret
  refine j_iload_n C dX5_fewest_0 rfl ?_
  refine j_callS C (ct_needPainter (by omega)) dX5_fewest_1 gX5_fewest_X5_needPainter rfl ks_X5_needPainter rfl rfl (Nat.le_of_ble_eq_true rfl) ⟨by decide, by decide⟩ ⟨Nat.zero_le _, Nat.zero_le _⟩ (k_V ?_)
  refine j_iload_n C dX5_fewest_4 rfl ?_
  refine j_iconst C dX5_fewest_5 (v := nI 0) (by decide) ?_
  refine j_iconst C dX5_fewest_6 (v := nI 1) (by decide) ?_
  refine j_callS C (ct_needWithin (by omega) (by omega) (by omega)) dX5_fewest_7 gX5_fewest_X5_needWithin rfl ks_X5_needWithin rfl rfl (Nat.le_of_ble_eq_true rfl) ⟨by decide, by decide⟩ ⟨Nat.zero_le _, Nat.zero_le _⟩ (k_V ?_)
  refine j_aload_n C dX5_fewest_10 rfl ?_
  refine j_getf C dX5_fewest_11 rfl (by decide) (T := TX5) rfl in_X5_fewest_X5 (k := 3) (by decide) fl_X5_fewest_33 rfl rfl ?_
  refine j_aload_n C dX5_fewest_14 rfl ?_
  refine j_getf C dX5_fewest_15 rfl (by decide) (T := TX5) rfl in_X5_fewest_X5 (k := 0) (by decide) fl_X5_fewest_12 rfl rfl ?_
  refine j_iload_n C dX5_fewest_18 rfl ?_
  refine j_callV C (ct_look hB hW hp) dX5_fewest_19 rfl (by decide) (T := TX2) rfl gX5_fewest_X2_look rfl kd_X2_look rfl rfl (Nat.le_of_ble_eq_true rfl) ⟨by decide, by decide⟩ ⟨Nat.zero_le _, Nat.zero_le _⟩ (k_VQ fun M3 hq => ?_)
  obtain ⟨hr8, ho⟩ := hq
  have hX3 : Xc M3 S := hX.off ho (fun a ha => by omega) (fun j hj => by rw [(ho.1 83 (by omega)).1]; exact hX.2.2.2.2.2 j hj)
  refine j_iload_n C dX5_fewest_22 rfl ?_
  refine j_if_neN C dX5_fewest_23 (tgt := 36) (by decide) (by omega) (fun cq23 => absurd cq23 (by decide)) (fun cq23 => ?_)
  refine j_aload_n C dX5_fewest_26 rfl ?_
  refine j_getf C dX5_fewest_27 rfl (by decide) (T := TX5) rfl in_X5_fewest_X5 (k := 3) (by decide) fl_X5_fewest_33 rfl rfl ?_
  refine j_callV C (ct_fewestBySets hnd hr hy hr8) dX5_fewest_30 rfl (by decide) (T := TX2) rfl gX5_fewest_X2_fewestBySets rfl kd_X2_fewestBySets rfl rfl (Nat.le_of_ble_eq_true rfl) ⟨by decide, by decide⟩ ⟨Nat.zero_le _, Nat.zero_le _⟩ (k_IQ fun M4 hq => ?_)
  have ho4 := hq
  refine j_goto C dX5_fewest_33 (tgt := 43) (by decide) ?_
  exact j_ireturn C hret dX5_fewest_43 ⟨by rw [Chi.uniq ((hnd 255).congr b255) hk], hX3.off ho4 (fun a ha => by omega) (fun j hj => by rw [(ho4.1 83 (by omega)).1]; exact hX3.2.2.2.2.2 j hj), (ho.of.mono (fun a ha => by unfold inX; omega)).tr (ho4.of.mono (fun a ha => by unfold inX; omega))⟩

set_option maxHeartbeats 4000000 in
set_option maxRecDepth 100000 in
theorem ct_fewest_1 {l : Launch} {G : GG} {M : MM} {S : SS} (hX : Xc M S) (hO : OkS S) {p cp : Nat} (hk : Chi (ap S.1 p) (fun _ => true) cp) (hp : p < 4) : Ct l G yX5_fewest wsX5_fewest 11 ([.ref (G.2.2 72), .int (nI p), .int (nI 1)] : List Value) M (fun v9 M9 => v9 = some (.int (nI cp)) ∧ Xc M9 S ∧ Of M M9 inX) := by
  have hB := hX.1
  have hW := hO.1
  have hy := ap_sym S.1 p
  have hr := ap_self S.1 p
  refine Ct.of (cc := cX5_fewest) (maxL := 3) (ret := (some .int)) (lv := [(0, .ref (G.2.2 72)), (1, .int (nI p)), (2, .int (nI 1))]) (by decide) rfl rfl (Nat.le_of_ble_eq_true rfl) ?_
  intro pg ev sg mm bl mt cd AZ C hret
  refine j_iload_n C dX5_fewest_0 rfl ?_
  refine j_callS C (ct_needPainter (by omega)) dX5_fewest_1 gX5_fewest_X5_needPainter rfl ks_X5_needPainter rfl rfl (Nat.le_of_ble_eq_true rfl) ⟨by decide, by decide⟩ ⟨Nat.zero_le _, Nat.zero_le _⟩ (k_V ?_)
  refine j_iload_n C dX5_fewest_4 rfl ?_
  refine j_iconst C dX5_fewest_5 (v := nI 0) (by decide) ?_
  refine j_iconst C dX5_fewest_6 (v := nI 1) (by decide) ?_
  refine j_callS C (ct_needWithin (by omega) (by omega) (by omega)) dX5_fewest_7 gX5_fewest_X5_needWithin rfl ks_X5_needWithin rfl rfl (Nat.le_of_ble_eq_true rfl) ⟨by decide, by decide⟩ ⟨Nat.zero_le _, Nat.zero_le _⟩ (k_V ?_)
  refine j_aload_n C dX5_fewest_10 rfl ?_
  refine j_getf C dX5_fewest_11 rfl (by decide) (T := TX5) rfl in_X5_fewest_X5 (k := 3) (by decide) fl_X5_fewest_33 rfl rfl ?_
  refine j_aload_n C dX5_fewest_14 rfl ?_
  refine j_getf C dX5_fewest_15 rfl (by decide) (T := TX5) rfl in_X5_fewest_X5 (k := 0) (by decide) fl_X5_fewest_12 rfl rfl ?_
  refine j_iload_n C dX5_fewest_18 rfl ?_
  refine j_callV C (ct_look hB hW hp) dX5_fewest_19 rfl (by decide) (T := TX2) rfl gX5_fewest_X2_look rfl kd_X2_look rfl rfl (Nat.le_of_ble_eq_true rfl) ⟨by decide, by decide⟩ ⟨Nat.zero_le _, Nat.zero_le _⟩ (k_VQ fun M3 hq => ?_)
  obtain ⟨hr8, ho⟩ := hq
  have hX3 : Xc M3 S := hX.off ho (fun a ha => by omega) (fun j hj => by rw [(ho.1 83 (by omega)).1]; exact hX.2.2.2.2.2 j hj)
  refine j_iload_n C dX5_fewest_22 rfl ?_
  refine j_if_neN C dX5_fewest_23 (tgt := 36) (by decide) (by omega) (fun cq23 => ?_) (fun cq23 => absurd cq23 (by decide))
  refine j_aload_n C dX5_fewest_36 rfl ?_
  refine j_getf C dX5_fewest_37 rfl (by decide) (T := TX5) rfl in_X5_fewest_X5 (k := 3) (by decide) fl_X5_fewest_33 rfl rfl ?_
  refine j_callV C (ct_fewestByTrying hy hr hk hr8 (fun i hi => hX3.2.2.2.2.2 i hi)) dX5_fewest_40 rfl (by decide) (T := TX2) rfl gX5_fewest_X2_fewestByTrying rfl kd_X2_fewestByTrying rfl rfl (Nat.le_of_ble_eq_true rfl) ⟨by decide, by decide⟩ ⟨Nat.zero_le _, Nat.zero_le _⟩ (k_I ?_)
  exact j_ireturn C hret dX5_fewest_43 ⟨rfl, hX3, ho.of.mono (fun a ha => by unfold inX; omega)⟩

