set_option maxRecDepth 20000 in
theorem in_X5_fewest_X5 : ∀ w ∈ wsX50, w ∈ wsX5_fewest := by decide +kernel
set_option maxRecDepth 20000 in
theorem fl_X5_fewest_33 : Cond.fieldLink RX5 33 "PotLabels" "labelling" "LPotLabels$Labelling;" ∈ wsX5_fewest := by decide +kernel
set_option maxRecDepth 20000 in
theorem fl_X5_fewest_12 : Cond.fieldLink RX5 12 "PotLabels" "bureau" "LPotLabels$Bureau;" ∈ wsX5_fewest := by decide +kernel
set_option maxRecDepth 20000 in
theorem kd_X2_look : yX2_look.cls = RX2 ∧ yX2_look.cls ≠ "java/lang/invoke/MethodHandle" ∧ yX2_look.cls ≠ "java/lang/invoke/VarHandle" ∧ (parseMethodDescriptor yX2_look.desc).map (fun d => d.parameters.length) = some 2 := by decide +kernel
set_option maxRecDepth 20000 in
theorem kd_X2_fewestBySets : yX2_fewestBySets.cls = RX2 ∧ yX2_fewestBySets.cls ≠ "java/lang/invoke/MethodHandle" ∧ yX2_fewestBySets.cls ≠ "java/lang/invoke/VarHandle" ∧ (parseMethodDescriptor yX2_fewestBySets.desc).map (fun d => d.parameters.length) = some 0 := by decide +kernel
set_option maxRecDepth 20000 in
theorem kd_X2_fewestByTrying : yX2_fewestByTrying.cls = RX2 ∧ yX2_fewestByTrying.cls ≠ "java/lang/invoke/MethodHandle" ∧ yX2_fewestByTrying.cls ≠ "java/lang/invoke/VarHandle" ∧ (parseMethodDescriptor yX2_fewestByTrying.desc).map (fun d => d.parameters.length) = some 0 := by decide +kernel
theorem chi_fn {R : Nat → Nat → Bool} (hr : ∀ i, R i i = false) : ∃ nd : Nat → Nat, ∀ m, Chi R (bit m) (nd m) := ⟨fun m => Classical.choose (Chi.ex hr (bit m)), fun m => Classical.choose_spec (Chi.ex hr (bit m))⟩
theorem b255 : ∀ i, i < 8 → bit 255 i = true := by decide +kernel

set_option maxHeartbeats 4000000 in
set_option maxRecDepth 100000 in
theorem ct_fewest_0 {l : Launch} {G : GG} {M : MM} {S : SS} (hX : Xc M S) (hO : OkS S) {p cp : Nat} (hk : Chi (ap S.1 p) (fun _ => true) cp) (hp : p < 4) : Ct l G yX5_fewest wsX5_fewest 11 ([.ref (G.2.2 72), .int (nI p), .int (nI 0)] : List Value) M (fun v9 M9 => v9 = some (.int (nI cp)) ∧ Xc M9 S ∧ Of M M9 inX) := by
  have hB := hX.1
  have hW := hO.1
  have hy := ap_sym S.1 p
  have hr := ap_self S.1 p
  obtain ⟨nd, hnd⟩ := chi_fn hr
  refine Ct.of (cc := cX5_fewest) (maxL := 3) (ret := (some .int)) (lv := [(0, .ref (G.2.2 72)), (1, .int (nI p)), (2, .int (nI 0))]) (by decide) rfl rfl (Nat.le_of_ble_eq_true rfl) ?_
  intro pg ev sg mm bl mt cd AZ C hret
  refine j_iload_n C dX5_fewest_0 rfl ?_
  refine j_callS C (ct_needPainter (by omega)) dX5_fewest_1 gX5_fewest_X5_needPainter rfl ks_X5_needPainter rfl rfl (Nat.le_of_ble_eq_true rfl) ⟨by decide, by decide⟩ ⟨Nat.zero_le _, Nat.zero_le _⟩ (k_V ?_)
  refine j_iload_n C dX5_fewest_4 rfl ?_
  refine j_iconst C dX5_fewest_5 (v := nI 0) (by decide) ?_
  refine j_iconst C dX5_fewest_6 (v := nI 1) (by decide) ?_
  refine j_callS C (ct_needWithin (by omega) (by omega) (by omega)) dX5_fewest_7 gX5_fewest_X5_needWithin rfl ks_X5_needWithin rfl rfl (Nat.le_of_ble_eq_true rfl) ⟨by decide, by decide⟩ ⟨Nat.zero_le _, Nat.zero_le _⟩ (k_V ?_)
  refine j_aload_n C dX5_fewest_10 rfl ?_
  refine j_getf C dX5_fewest_11 rfl (by decide) (T := TX5) rfl in_X5_fewest_X5 (k := 3) (by decide) fl_X5_fewest_33 rfl rfl ?_
  refine j_aload_n C dX5_fewest_14 rfl ?_
  refine j_getf C dX5_fewest_15 rfl (by decide) (T := TX5) rfl in_X5_fewest_X5 (k := 0) (by decide) fl_X5_fewest_12 rfl rfl ?_
  refine j_iload_n C dX5_fewest_18 rfl ?_
  refine j_callV C (ct_look hB hW hp) dX5_fewest_19 rfl (by decide) (T := TX2) rfl gX5_fewest_X2_look rfl kd_X2_look rfl rfl (Nat.le_of_ble_eq_true rfl) ⟨by decide, by decide⟩ ⟨Nat.zero_le _, Nat.zero_le _⟩ (k_VQ fun M3 hq => ?_)
  obtain ⟨hr8, ho⟩ := hq
  have hX3 : Xc M3 S := hX.off ho (fun a ha => by omega) (fun j hj => by rw [(ho.1 83 (by omega)).1]; exact hX.2.2.2.2.2 j hj)
  refine j_iload_n C dX5_fewest_22 rfl ?_
  refine j_if_neN C dX5_fewest_23 (tgt := 36) (by decide) (by omega) (fun cq23 => absurd cq23 (by decide)) (fun cq23 => ?_)
  refine j_aload_n C dX5_fewest_26 rfl ?_
  refine j_getf C dX5_fewest_27 rfl (by decide) (T := TX5) rfl in_X5_fewest_X5 (k := 3) (by decide) fl_X5_fewest_33 rfl rfl ?_
  refine j_callV C (ct_fewestBySets hnd hr hy hr8) dX5_fewest_30 rfl (by decide) (T := TX2) rfl gX5_fewest_X2_fewestBySets rfl kd_X2_fewestBySets rfl rfl (Nat.le_of_ble_eq_true rfl) ⟨by decide, by decide⟩ ⟨Nat.zero_le _, Nat.zero_le _⟩ (k_IQ fun M4 hq => ?_)
  have ho4 := hq
  refine j_goto C dX5_fewest_33 (tgt := 43) (by decide) ?_
  exact j_ireturn C hret dX5_fewest_43 ⟨by rw [Chi.uniq ((hnd 255).congr b255) hk], hX3.off ho4 (fun a ha => by omega) (fun j hj => by rw [(ho4.1 83 (by omega)).1]; exact hX3.2.2.2.2.2 j hj), (ho.of.mono (fun a ha => by unfold inX; omega)).tr (ho4.of.mono (fun a ha => by unfold inX; omega))⟩

set_option maxHeartbeats 4000000 in
set_option maxRecDepth 100000 in
theorem ct_fewest_1 {l : Launch} {G : GG} {M : MM} {S : SS} (hX : Xc M S) (hO : OkS S) {p cp : Nat} (hk : Chi (ap S.1 p) (fun _ => true) cp) (hp : p < 4) : Ct l G yX5_fewest wsX5_fewest 11 ([.ref (G.2.2 72), .int (nI p), .int (nI 1)] : List Value) M (fun v9 M9 => v9 = some (.int (nI cp)) ∧ Xc M9 S ∧ Of M M9 inX) := by
  have hB := hX.1
  have hW := hO.1
  have hy := ap_sym S.1 p
  have hr := ap_self S.1 p
  refine Ct.of (cc := cX5_fewest) (maxL := 3) (ret := (some .int)) (lv := [(0, .ref (G.2.2 72)), (1, .int (nI p)), (2, .int (nI 1))]) (by decide) rfl rfl (Nat.le_of_ble_eq_true rfl) ?_
  intro pg ev sg mm bl mt cd AZ C hret
  refine j_iload_n C dX5_fewest_0 rfl ?_
  refine j_callS C (ct_needPainter (by omega)) dX5_fewest_1 gX5_fewest_X5_needPainter rfl ks_X5_needPainter rfl rfl (Nat.le_of_ble_eq_true rfl) ⟨by decide, by decide⟩ ⟨Nat.zero_le _, Nat.zero_le _⟩ (k_V ?_)
  refine j_iload_n C dX5_fewest_4 rfl ?_
  refine j_iconst C dX5_fewest_5 (v := nI 0) (by decide) ?_
  refine j_iconst C dX5_fewest_6 (v := nI 1) (by decide) ?_
  refine j_callS C (ct_needWithin (by omega) (by omega) (by omega)) dX5_fewest_7 gX5_fewest_X5_needWithin rfl ks_X5_needWithin rfl rfl (Nat.le_of_ble_eq_true rfl) ⟨by decide, by decide⟩ ⟨Nat.zero_le _, Nat.zero_le _⟩ (k_V ?_)
  refine j_aload_n C dX5_fewest_10 rfl ?_
  refine j_getf C dX5_fewest_11 rfl (by decide) (T := TX5) rfl in_X5_fewest_X5 (k := 3) (by decide) fl_X5_fewest_33 rfl rfl ?_
  refine j_aload_n C dX5_fewest_14 rfl ?_
  refine j_getf C dX5_fewest_15 rfl (by decide) (T := TX5) rfl in_X5_fewest_X5 (k := 0) (by decide) fl_X5_fewest_12 rfl rfl ?_
  refine j_iload_n C dX5_fewest_18 rfl ?_
  refine j_callV C (ct_look hB hW hp) dX5_fewest_19 rfl (by decide) (T := TX2) rfl gX5_fewest_X2_look rfl kd_X2_look rfl rfl (Nat.le_of_ble_eq_true rfl) ⟨by decide, by decide⟩ ⟨Nat.zero_le _, Nat.zero_le _⟩ (k_VQ fun M3 hq => ?_)
  obtain ⟨hr8, ho⟩ := hq
  have hX3 : Xc M3 S := hX.off ho (fun a ha => by omega) (fun j hj => by rw [(ho.1 83 (by omega)).1]; exact hX.2.2.2.2.2 j hj)
  refine j_iload_n C dX5_fewest_22 rfl ?_
  refine j_if_neN C dX5_fewest_23 (tgt := 36) (by decide) (by omega) (fun cq23 => ?_) (fun cq23 => absurd cq23 (by decide))
  refine j_aload_n C dX5_fewest_36 rfl ?_
  refine j_getf C dX5_fewest_37 rfl (by decide) (T := TX5) rfl in_X5_fewest_X5 (k := 3) (by decide) fl_X5_fewest_33 rfl rfl ?_
  refine j_callV C (ct_fewestByTrying hy hr hk hr8 (fun i hi => hX3.2.2.2.2.2 i hi)) dX5_fewest_40 rfl (by decide) (T := TX2) rfl gX5_fewest_X2_fewestByTrying rfl kd_X2_fewestByTrying rfl rfl (Nat.le_of_ble_eq_true rfl) ⟨by decide, by decide⟩ ⟨Nat.zero_le _, Nat.zero_le _⟩ (k_I ?_)
  exact j_ireturn C hret dX5_fewest_43 ⟨rfl, hX3, ho.of.mono (fun a ha => by unfold inX; omega)⟩

theorem bits2 {s a b : Nat} (hs : s < 2 ^ 31) : nI (s / 2 ^ a) &&& nI (s / 2 ^ b) &&& nI 1 = bI (bit s a && bit s b) := by
  have h1 : s / 2 ^ a < 2 ^ 31 := Nat.lt_of_le_of_lt (Nat.div_le_self _ _) hs
  have h2 : s / 2 ^ b < 2 ^ 31 := Nat.lt_of_le_of_lt (Nat.div_le_self _ _) hs
  rw [nI_and h1 h2, nI_and (Nat.lt_of_le_of_lt Nat.and_le_left h1) (by decide), Nat.and_assoc, bit_nat]
  cases bit s b
  · rw [cond, Nat.and_zero, Bool.and_false]; rfl
  · rw [cond, bit_nat]; cases bit s a <;> rfl
section PL
variable {R : Nat → Nat → Bool} {s k : Nat}
theorem al_s (f : Nat → Bool) (k : Nat) : alB (k + 1) f = (alB k f && f k) := rfl
theorem pl_1 (h : alB k (pcF R s) = false) : nI 0 = bI (alB (k + 1) (pcF R s)) := by rw [al_s, h]; rfl
theorem pl_2 (h : alB k (pcF R s) = true) (h2 : (bit s (k / 8) && bit s (k % 8)) = false) : nI 1 = bI (alB (k + 1) (pcF R s)) := by rw [al_s, h]; unfold pcF; rw [h2]; rfl
theorem pl_3 (h2 : (bit s (k / 8) && bit s (k % 8)) = true) (h3 : R (k / 8) (k % 8) = true) : nI 0 = bI (alB (k + 1) (pcF R s)) := by rw [al_s]; unfold pcF; rw [h2, h3]; exact congrArg bI (Bool.and_false _).symm
theorem pl_4 (h : alB k (pcF R s) = true) (h3 : R (k / 8) (k % 8) = false) : nI 1 = bI (alB (k + 1) (pcF R s)) := by rw [al_s, h]; unfold pcF; rw [h3, Bool.and_false]; rfl
end PL

set_option maxHeartbeats 4000000 in
set_option maxRecDepth 100000 in
theorem cm_isPlain {l : Launch} {G : GG} {M : MM} {σ : Sg} (hS : Sm M 0 σ) (hW : Wf σ) {p s : Nat} (hp : p < 4) (hs : s < 256) : Ct l G yX6_isPlain wsX6_isPlain 6 ([.ref (G.2.2 84), .int (nI p), .int (nI s)] : List Value) M (rI (bI (pcB (ap σ p) s)) M) := by
  refine Ct.of (cc := cX6_isPlain) (maxL := 6) (ret := (some .boolean)) (lv := [(0, .ref (G.2.2 84)), (1, .int (nI p)), (2, .int (nI s))]) (by decide) rfl rfl (Nat.le_of_ble_eq_true rfl) ?_
  intro pg ev sg mm bl mt cd AZ C hret
  refine j_iconst C dX6_isPlain_0 (v := nI 1) (by decide) ?_
  refine j_top C (bI (alB 0 (pcF (ap σ p) s))) rfl ?_
  refine j_istore_n C dX6_isPlain_1 (by decide) ?_
  refine j_iconst C dX6_isPlain_2 (v := nI 0) (by decide) ?_
  refine j_istore C dX6_isPlain_3 (by decide) ?_
  have L5 : ∀ k, k ≤ 64 → J G pg l ev (rmD 6) sg mm ([.ref (G.2.2 84), .int (nI p), .int (nI s)] : List Value).toArray bl mt cd AZ 6 (MQ bl (QQ G (rI (bI (pcB (ap σ p) s)) M) AZ) ([.ref (G.2.2 84), .int (nI p), .int (nI s)] : List Value).toArray sg 0 0 AZ) 0 0 5 [(0, .ref (G.2.2 84)), (1, .int (nI p)), (2, .int (nI s)), (3, .int (bI (alB k (pcF (ap σ p) s)))), (4, .int (nI k))] [] (M) := by
    refine dnto ?_
    intro k hk5 ih5
    refine j_iload C dX6_isPlain_5 rfl ?_
    refine j_bipush C dX6_isPlain_7 (v := nI 64) (by decide) ?_
    refine j_icmp_geN C dX6_isPlain_9 (tgt := 79) (by decide) (by omega) (by omega) (fun cq9 => ?_) (fun cq9 => ?_)
    · have e9 : k = 64 := by omega
      subst e9
      refine j_iload_n C dX6_isPlain_79 rfl ?_
      exact j_zreturn C hret dX6_isPlain_80 ⟨rfl, rfl⟩
    · refine j_iload_n C dX6_isPlain_12 rfl ?_
      refine j_iload C dX6_isPlain_13 rfl ?_
      refine j_bipush C dX6_isPlain_15 (v := nI 8) (by decide) ?_
      refine j_idivN C dX6_isPlain_17 (by omega) (by decide) (by decide) ?_
      refine j_ishr C dX6_isPlain_18 ?_
      refine j_top C (_) (nI_shr (by omega) (by omega)) ?_
      refine j_iload_n C dX6_isPlain_19 rfl ?_
      refine j_iload C dX6_isPlain_20 rfl ?_
      refine j_bipush C dX6_isPlain_22 (v := nI 8) (by decide) ?_
      refine j_iremN C dX6_isPlain_24 (by omega) (by decide) (by decide) ?_
      refine j_ishr C dX6_isPlain_25 ?_
      refine j_top C (_) (nI_shr (by omega) (by omega)) ?_
      refine j_iand C dX6_isPlain_26 ?_
      refine j_iconst C dX6_isPlain_27 (v := nI 1) (by decide) ?_
      refine j_iand C dX6_isPlain_28 ?_
      refine j_top C (bI (bit s (k / 8) && bit s (k % 8))) (bits2 (by omega)) ?_
      refine j_iconst C dX6_isPlain_29 (v := nI 1) (by decide) ?_
      refine j_icmp_neB1 C dX6_isPlain_30 (tgt := 37) (by decide) (fun cq30 => ?_) (fun cq30 => ?_)
      · refine j_iconst C dX6_isPlain_37 (v := nI 0) (by decide) ?_
        refine j_top C (bI (bit s (k / 8) && bit s (k % 8))) (by rw [cq30]; rfl) ?_
        refine j_istore C dX6_isPlain_38 (by decide) ?_
        refine j_iload_n C dX6_isPlain_40 rfl ?_
        refine j_if_eqB C dX6_isPlain_41 (tgt := 71) (by decide) (fun cq41 => ?_) (fun cq41 => ?_)
        · refine j_iconst C dX6_isPlain_71 (v := nI 0) (by decide) ?_
          refine j_top C (bI (alB (k + 1) (pcF (ap σ p) s))) (by first | exact pl_1 cq41 | exact pl_3 cq46 cq64) ?_
          refine j_istore_n C dX6_isPlain_72 (by decide) ?_
          refine j_iincN C dX6_isPlain_73 rfl (by decide) ?_
          refine j_goto C dX6_isPlain_76 (tgt := 5) (by decide) ?_
          exact j_pick [0, 1, 2, 3, 4] (ih5 (by omega))
        · refine j_iload C dX6_isPlain_44 rfl ?_
          refine j_if_eqB C dX6_isPlain_46 (tgt := 67) (by decide) (fun cq46 => ?_) (fun cq46 => ?_)
          · refine j_iconst C dX6_isPlain_67 (v := nI 1) (by decide) ?_
            refine j_top C (bI (alB (k + 1) (pcF (ap σ p) s))) (by first | exact pl_2 cq41 cq46 | exact pl_4 cq41 cq64) ?_
            refine j_goto C dX6_isPlain_68 (tgt := 72) (by decide) ?_
            refine j_istore_n C dX6_isPlain_72 (by decide) ?_
            refine j_iincN C dX6_isPlain_73 rfl (by decide) ?_
            refine j_goto C dX6_isPlain_76 (tgt := 5) (by decide) ?_
            exact j_pick [0, 1, 2, 3, 4] (ih5 (by omega))
          · refine j_aload_n C dX6_isPlain_49 rfl ?_
            refine j_iload_n C dX6_isPlain_50 rfl ?_
            refine j_iload C dX6_isPlain_51 rfl ?_
            refine j_bipush C dX6_isPlain_53 (v := nI 8) (by decide) ?_
            refine j_idivN C dX6_isPlain_55 (by omega) (by decide) (by decide) ?_
            refine j_iload C dX6_isPlain_56 rfl ?_
            refine j_bipush C dX6_isPlain_58 (v := nI 8) (by decide) ?_
            refine j_iremN C dX6_isPlain_60 (by omega) (by decide) (by decide) ?_
            refine j_callV C (cm_areApart hS hW hp (by omega) (by omega)) dX6_isPlain_61 rfl (by decide) (T := TX6) rfl gX6_isPlain_X6_areApart rfl kd_X6_areApart rfl rfl (Nat.le_of_ble_eq_true rfl) ⟨by decide, by decide⟩ ⟨Nat.zero_le _, Nat.zero_le _⟩ (k_I ?_)
            refine j_if_neB C dX6_isPlain_64 (tgt := 71) (by decide) (fun cq64 => ?_) (fun cq64 => ?_)
            · refine j_iconst C dX6_isPlain_71 (v := nI 0) (by decide) ?_
              refine j_top C (bI (alB (k + 1) (pcF (ap σ p) s))) (by first | exact pl_1 cq41 | exact pl_3 cq46 cq64) ?_
              refine j_istore_n C dX6_isPlain_72 (by decide) ?_
              refine j_iincN C dX6_isPlain_73 rfl (by decide) ?_
              refine j_goto C dX6_isPlain_76 (tgt := 5) (by decide) ?_
              exact j_pick [0, 1, 2, 3, 4] (ih5 (by omega))
            · refine j_iconst C dX6_isPlain_67 (v := nI 1) (by decide) ?_
              refine j_top C (bI (alB (k + 1) (pcF (ap σ p) s))) (by first | exact pl_2 cq41 cq46 | exact pl_4 cq41 cq64) ?_
              refine j_goto C dX6_isPlain_68 (tgt := 72) (by decide) ?_
              refine j_istore_n C dX6_isPlain_72 (by decide) ?_
              refine j_iincN C dX6_isPlain_73 rfl (by decide) ?_
              refine j_goto C dX6_isPlain_76 (tgt := 5) (by decide) ?_
              exact j_pick [0, 1, 2, 3, 4] (ih5 (by omega))
      · refine j_iconst C dX6_isPlain_33 (v := nI 1) (by decide) ?_
        refine j_top C (bI (bit s (k / 8) && bit s (k % 8))) (by rw [cq30]; rfl) ?_
        refine j_goto C dX6_isPlain_34 (tgt := 38) (by decide) ?_
        refine j_istore C dX6_isPlain_38 (by decide) ?_
        refine j_iload_n C dX6_isPlain_40 rfl ?_
        refine j_if_eqB C dX6_isPlain_41 (tgt := 71) (by decide) (fun cq41 => ?_) (fun cq41 => ?_)
        · refine j_iconst C dX6_isPlain_71 (v := nI 0) (by decide) ?_
          refine j_top C (bI (alB (k + 1) (pcF (ap σ p) s))) (by first | exact pl_1 cq41 | exact pl_3 cq46 cq64) ?_
          refine j_istore_n C dX6_isPlain_72 (by decide) ?_
          refine j_iincN C dX6_isPlain_73 rfl (by decide) ?_
          refine j_goto C dX6_isPlain_76 (tgt := 5) (by decide) ?_
          exact j_pick [0, 1, 2, 3, 4] (ih5 (by omega))
        · refine j_iload C dX6_isPlain_44 rfl ?_
          refine j_if_eqB C dX6_isPlain_46 (tgt := 67) (by decide) (fun cq46 => ?_) (fun cq46 => ?_)
          · refine j_iconst C dX6_isPlain_67 (v := nI 1) (by decide) ?_
            refine j_top C (bI (alB (k + 1) (pcF (ap σ p) s))) (by first | exact pl_2 cq41 cq46 | exact pl_4 cq41 cq64) ?_
            refine j_goto C dX6_isPlain_68 (tgt := 72) (by decide) ?_
            refine j_istore_n C dX6_isPlain_72 (by decide) ?_
            refine j_iincN C dX6_isPlain_73 rfl (by decide) ?_
            refine j_goto C dX6_isPlain_76 (tgt := 5) (by decide) ?_
            exact j_pick [0, 1, 2, 3, 4] (ih5 (by omega))
          · refine j_aload_n C dX6_isPlain_49 rfl ?_
            refine j_iload_n C dX6_isPlain_50 rfl ?_
            refine j_iload C dX6_isPlain_51 rfl ?_
            refine j_bipush C dX6_isPlain_53 (v := nI 8) (by decide) ?_
            refine j_idivN C dX6_isPlain_55 (by omega) (by decide) (by decide) ?_
            refine j_iload C dX6_isPlain_56 rfl ?_
            refine j_bipush C dX6_isPlain_58 (v := nI 8) (by decide) ?_
            refine j_iremN C dX6_isPlain_60 (by omega) (by decide) (by decide) ?_
            refine j_callV C (cm_areApart hS hW hp (by omega) (by omega)) dX6_isPlain_61 rfl (by decide) (T := TX6) rfl gX6_isPlain_X6_areApart rfl kd_X6_areApart rfl rfl (Nat.le_of_ble_eq_true rfl) ⟨by decide, by decide⟩ ⟨Nat.zero_le _, Nat.zero_le _⟩ (k_I ?_)
            refine j_if_neB C dX6_isPlain_64 (tgt := 71) (by decide) (fun cq64 => ?_) (fun cq64 => ?_)
            · refine j_iconst C dX6_isPlain_71 (v := nI 0) (by decide) ?_
              refine j_top C (bI (alB (k + 1) (pcF (ap σ p) s))) (by first | exact pl_1 cq41 | exact pl_3 cq46 cq64) ?_
              refine j_istore_n C dX6_isPlain_72 (by decide) ?_
              refine j_iincN C dX6_isPlain_73 rfl (by decide) ?_
              refine j_goto C dX6_isPlain_76 (tgt := 5) (by decide) ?_
              exact j_pick [0, 1, 2, 3, 4] (ih5 (by omega))
            · refine j_iconst C dX6_isPlain_67 (v := nI 1) (by decide) ?_
              refine j_top C (bI (alB (k + 1) (pcF (ap σ p) s))) (by first | exact pl_2 cq41 cq46 | exact pl_4 cq41 cq64) ?_
              refine j_goto C dX6_isPlain_68 (tgt := 72) (by decide) ?_
              refine j_istore_n C dX6_isPlain_72 (by decide) ?_
              refine j_iincN C dX6_isPlain_73 rfl (by decide) ?_
              refine j_goto C dX6_isPlain_76 (tgt := 5) (by decide) ?_
              exact j_pick [0, 1, 2, 3, 4] (ih5 (by omega))
  exact L5 0 (by omega)
