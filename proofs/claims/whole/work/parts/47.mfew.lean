set_option maxRecDepth 20000 in
theorem kd_X6_canDo : yX6_canDo.cls = RX6 ∧ yX6_canDo.cls ≠ "java/lang/invoke/MethodHandle" ∧ yX6_canDo.cls ≠ "java/lang/invoke/VarHandle" ∧ (parseMethodDescriptor yX6_canDo.desc).map (fun d => d.parameters.length) = some 2 := by decide +kernel
set_option maxRecDepth 20000 in
theorem kd_X6_bySets : yX6_bySets.cls = RX6 ∧ yX6_bySets.cls ≠ "java/lang/invoke/MethodHandle" ∧ yX6_bySets.cls ≠ "java/lang/invoke/VarHandle" ∧ (parseMethodDescriptor yX6_bySets.desc).map (fun d => d.parameters.length) = some 1 := by decide +kernel
set_option maxRecDepth 20000 in
theorem kd_X6_byTrying : yX6_byTrying.cls = RX6 ∧ yX6_byTrying.cls ≠ "java/lang/invoke/MethodHandle" ∧ yX6_byTrying.cls ≠ "java/lang/invoke/VarHandle" ∧ (parseMethodDescriptor yX6_byTrying.desc).map (fun d => d.parameters.length) = some 1 := by decide +kernel
theorem chi_ge {R : Nat → Nat → Bool} {cp K : Nat} (hk : Chi R (fun _ => true) cp) : decide (cp ≤ K) = true ↔ Cob R (fun _ => true) K := ⟨fun h => hk.1.mono (of_decide_eq_true h) (fun _ _ h => h), fun h => decide_eq_true (hk.2 K h)⟩
theorem chi_1 {R : Nat → Nat → Bool} {cp : Nat} (hk : Chi R (fun _ => true) cp) : 1 ≤ cp := by
  obtain ⟨c, h1, -⟩ := hk.1
  have := h1 0 (by decide) rfl
  omega
theorem Xm.off {M M9 : MM} {S : SS} {P : Nat → Prop} (h : Xm M S) (ho : Off M M9 P) (hp : ∀ a, a < 88 → ¬ P a) : Xm M9 S := by
  obtain ⟨a1, a2, a3, a4, a5⟩ := h
  have e85 := (ho.1 85 (hp 85 (by decide))).1
  have hs : ∀ {n : Nat} {τ : Sg}, Sm M n τ → Sm M9 n τ := fun h k hk => by rw [e85]; exact h k hk
  refine ⟨hs a1, ⟨a2.1, by rw [(ho.1 84 (hp 84 (by decide))).2]; exact a2.2.1, fun k hk => hs (a2.2.2 k hk)⟩, fun t ht => by rw [(ho.1 86 (hp 86 (by decide))).1]; exact a3 t ht, fun t ht hf => hs (a4 t ht hf), ⟨a5.1, by rw [(ho.1 84 (hp 84 (by decide))).2]; exact a5.2.1, fun j hj => by rw [(ho.1 87 (hp 87 (by decide))).1]; exact a5.2.2.1 j hj, a5.2.2.2⟩⟩

set_option maxHeartbeats 4000000 in
set_option maxRecDepth 100000 in
theorem cm_byTrying {l : Launch} {G : GG} {M : MM} {σ : Sg} (hS : Sm M 0 σ) (hW : Wf σ) {p cp : Nat} (hp : p < 4) (hk : Chi (ap σ p) (fun _ => true) cp) : Ct l G yX6_byTrying wsX6_byTrying 7 ([.ref (G.2.2 84), .int (nI p)] : List Value) M (fun v9 M9 => v9 = some (.int (nI cp)) ∧ Off M M9 (fun a => a = 89)) := by
  have hc8 := hk.le8 (ap_self σ p)
  refine Ct.of (cc := cX6_byTrying) (maxL := 3) (ret := (some .int)) (lv := [(0, .ref (G.2.2 84)), (1, .int (nI p))]) (by decide) rfl rfl (Nat.le_of_ble_eq_true rfl) ?_
  intro pg ev sg mm bl mt cd AZ C hret
  refine j_iconst C dX6_byTrying_0 (v := nI 1) (by decide) ?_
  refine j_istore_n C dX6_byTrying_1 (by decide) ?_
  have L2 : ∀ K, K ≤ cp → 1 ≤ K → ∀ M2 : MM, Off M M2 (fun a => a = 89) → J G pg l ev (rmD 7) sg mm ([.ref (G.2.2 84), .int (nI p)] : List Value).toArray bl mt cd AZ 3 (MQ bl (QQ G (fun v9 M9 => v9 = some (.int (nI cp)) ∧ Off M M9 (fun a => a = 89)) AZ) ([.ref (G.2.2 84), .int (nI p)] : List Value).toArray sg 0 0 AZ) 0 0 2 [(0, .ref (G.2.2 84)), (1, .int (nI p)), (2, .int (nI K))] [] (M2) := by
    refine dnto ?_
    intro K hK2 ih2 h1 M2 ho2
    have hS2 : Sm M2 0 σ := hS.off89 ho2
    refine j_aload_n C dX6_byTrying_2 rfl ?_
    refine j_iload_n C dX6_byTrying_3 rfl ?_
    refine j_iload_n C dX6_byTrying_4 rfl ?_
    refine j_callV C (cm_canDo (kb := decide (cp ≤ K)) hS2 hW hp (by omega) (chi_ge hk)) dX6_byTrying_5 rfl (by decide) (T := TX6) rfl gX6_byTrying_X6_canDo rfl kd_X6_canDo rfl rfl (Nat.le_of_ble_eq_true rfl) ⟨by decide, by decide⟩ ⟨Nat.zero_le _, Nat.zero_le _⟩ (k_IQ fun M3 hq => ?_)
    have ho3 := hq
    refine j_if_neB C dX6_byTrying_8 (tgt := 17) (by decide) (fun cq8 => ?_) (fun cq8 => ?_)
    · have e9 : K = cp := by have := of_decide_eq_true cq8; omega
      subst e9
      refine j_iload_n C dX6_byTrying_17 rfl ?_
      exact j_ireturn C hret dX6_byTrying_18 ⟨rfl, ho2.tr ho3⟩
    · refine j_iincN C dX6_byTrying_11 rfl (by decide) ?_
      refine j_goto C dX6_byTrying_14 (tgt := 2) (by decide) ?_
      exact ih2 (by have := of_decide_eq_false cq8; omega) (by omega) M3 (ho2.tr ho3)
  exact L2 1 (chi_1 hk) (Nat.le_refl 1) M Off.rf

set_option maxHeartbeats 4000000 in
set_option maxRecDepth 100000 in
theorem cn_fewest_0 {l : Launch} {G : GG} {M : MM} {S : SS} (hX : Xm M S) (hO : OkS S) {p cp : Nat} (hk : Chi (ap S.1 p) (fun _ => true) cp) (hp : p < 4) : Ct l G yX6_fewest wsX6_fewest 8 ([.ref (G.2.2 84), .int (nI p), .int (nI 0)] : List Value) M (fun v9 M9 => v9 = some (.int (nI cp)) ∧ Xm M9 (S) ∧ Off M M9 inM ∧ M9.2.1 84 5 = nI 0) := by
  have hS := hX.1
  have hW := hO.1
  obtain ⟨nd, hnd⟩ := chi_fn (ap_self S.1 p)
  refine Ct.of (cc := cX6_fewest) (maxL := 3) (ret := (some .int)) (lv := [(0, .ref (G.2.2 84)), (1, .int (nI p)), (2, .int (nI 0))]) (by decide) rfl rfl (Nat.le_of_ble_eq_true rfl) ?_
  intro pg ev sg mm bl mt cd AZ C hret
  refine j_aload_n C dX6_fewest_0 rfl ?_
  refine j_iload_n C dX6_fewest_1 rfl ?_
  refine j_callS C cm_isPainter dX6_fewest_2 gX6_fewest_X6_isPainter rfl ks_X6_isPainter rfl rfl (Nat.le_of_ble_eq_true rfl) ⟨by decide, by decide⟩ ⟨Nat.zero_le _, Nat.zero_le _⟩ (k_I ?_)
  refine j_top C (bI true) (congrArg bI (inI_N (by omega) (by omega) (by decide))) ?_
  refine j_iload_n C dX6_fewest_5 rfl ?_
  refine j_iconst C dX6_fewest_6 (v := nI 0) (by decide) ?_
  refine j_iconst C dX6_fewest_7 (v := nI 1) (by decide) ?_
  refine j_callS C cm_in dX6_fewest_8 gX6_fewest_X6_in rfl ks_X6_in rfl rfl (Nat.le_of_ble_eq_true rfl) ⟨by decide, by decide⟩ ⟨Nat.zero_le _, Nat.zero_le _⟩ (k_I ?_)
  refine j_top C (bI true) (congrArg bI (inI_N (by omega) (by omega) (by decide))) ?_
  refine j_callV C cm_goes dX6_fewest_11 rfl (by decide) (T := TX6) rfl gX6_fewest_X6_goes rfl kd_X6_goes rfl rfl (Nat.le_of_ble_eq_true rfl) ⟨by decide, by decide⟩ ⟨Nat.zero_le _, Nat.zero_le _⟩ (k_I ?_)
  refine j_top C (bI true) rfl ?_
  have hX1 : Xm (setV M 84 5 (nI (thr true true))) S := hX.thr
  have hS1 := hX1.1
  refine j_if_neB C dX6_fewest_14 (tgt := 19) (by decide) (fun cq14 => ?_) (fun cq14 => absurd cq14 (by decide))
  refine j_iload_n C dX6_fewest_19 rfl ?_
  refine j_if_neN C dX6_fewest_20 (tgt := 31) (by decide) (by omega) (fun cq20 => absurd cq20 (by decide)) (fun cq20 => ?_)
  refine j_aload_n C dX6_fewest_23 rfl ?_
  refine j_iload_n C dX6_fewest_24 rfl ?_
  refine j_callV C (cm_bySets hS1 hW hp hnd) dX6_fewest_25 rfl (by decide) (T := TX6) rfl gX6_fewest_X6_bySets rfl kd_X6_bySets rfl rfl (Nat.le_of_ble_eq_true rfl) ⟨by decide, by decide⟩ ⟨Nat.zero_le _, Nat.zero_le _⟩ (k_IQ fun M3 hq => ?_)
  have ho := hq
  refine j_goto C dX6_fewest_28 (tgt := 36) (by decide) ?_
  exact j_ireturn C hret dX6_fewest_36 ⟨by rw [Chi.uniq ((hnd 255).congr b255) hk], hX1.off ho (fun a ha => by omega), (Off.V (by unfold inM; omega)).tr (ho.mono (fun a ha => by unfold inM; omega)), by rw [(ho.1 84 (by omega)).2]; exact setV_eq⟩

set_option maxHeartbeats 4000000 in
set_option maxRecDepth 100000 in
theorem cn_fewest_1 {l : Launch} {G : GG} {M : MM} {S : SS} (hX : Xm M S) (hO : OkS S) {p cp : Nat} (hk : Chi (ap S.1 p) (fun _ => true) cp) (hp : p < 4) : Ct l G yX6_fewest wsX6_fewest 8 ([.ref (G.2.2 84), .int (nI p), .int (nI 1)] : List Value) M (fun v9 M9 => v9 = some (.int (nI cp)) ∧ Xm M9 (S) ∧ Off M M9 inM ∧ M9.2.1 84 5 = nI 0) := by
  have hS := hX.1
  have hW := hO.1
  refine Ct.of (cc := cX6_fewest) (maxL := 3) (ret := (some .int)) (lv := [(0, .ref (G.2.2 84)), (1, .int (nI p)), (2, .int (nI 1))]) (by decide) rfl rfl (Nat.le_of_ble_eq_true rfl) ?_
  intro pg ev sg mm bl mt cd AZ C hret
  refine j_aload_n C dX6_fewest_0 rfl ?_
  refine j_iload_n C dX6_fewest_1 rfl ?_
  refine j_callS C cm_isPainter dX6_fewest_2 gX6_fewest_X6_isPainter rfl ks_X6_isPainter rfl rfl (Nat.le_of_ble_eq_true rfl) ⟨by decide, by decide⟩ ⟨Nat.zero_le _, Nat.zero_le _⟩ (k_I ?_)
  refine j_top C (bI true) (congrArg bI (inI_N (by omega) (by omega) (by decide))) ?_
  refine j_iload_n C dX6_fewest_5 rfl ?_
  refine j_iconst C dX6_fewest_6 (v := nI 0) (by decide) ?_
  refine j_iconst C dX6_fewest_7 (v := nI 1) (by decide) ?_
  refine j_callS C cm_in dX6_fewest_8 gX6_fewest_X6_in rfl ks_X6_in rfl rfl (Nat.le_of_ble_eq_true rfl) ⟨by decide, by decide⟩ ⟨Nat.zero_le _, Nat.zero_le _⟩ (k_I ?_)
  refine j_top C (bI true) (congrArg bI (inI_N (by omega) (by omega) (by decide))) ?_
  refine j_callV C cm_goes dX6_fewest_11 rfl (by decide) (T := TX6) rfl gX6_fewest_X6_goes rfl kd_X6_goes rfl rfl (Nat.le_of_ble_eq_true rfl) ⟨by decide, by decide⟩ ⟨Nat.zero_le _, Nat.zero_le _⟩ (k_I ?_)
  refine j_top C (bI true) rfl ?_
  have hX1 : Xm (setV M 84 5 (nI (thr true true))) S := hX.thr
  have hS1 := hX1.1
  refine j_if_neB C dX6_fewest_14 (tgt := 19) (by decide) (fun cq14 => ?_) (fun cq14 => absurd cq14 (by decide))
  refine j_iload_n C dX6_fewest_19 rfl ?_
  refine j_if_neN C dX6_fewest_20 (tgt := 31) (by decide) (by omega) (fun cq20 => ?_) (fun cq20 => absurd cq20 (by decide))
  refine j_aload_n C dX6_fewest_31 rfl ?_
  refine j_iload_n C dX6_fewest_32 rfl ?_
  refine j_callV C (cm_byTrying hS1 hW hp hk) dX6_fewest_33 rfl (by decide) (T := TX6) rfl gX6_fewest_X6_byTrying rfl kd_X6_byTrying rfl rfl (Nat.le_of_ble_eq_true rfl) ⟨by decide, by decide⟩ ⟨Nat.zero_le _, Nat.zero_le _⟩ (k_IQ fun M3 hq => ?_)
  have ho := hq
  exact j_ireturn C hret dX6_fewest_36 ⟨rfl, hX1.off ho (fun a ha => by omega), (Off.V (by unfold inM; omega)).tr (ho.mono (fun a ha => by unfold inM; omega)), by rw [(ho.1 84 (by omega)).2]; exact setV_eq⟩
