set_option maxRecDepth 20000 in
theorem in_X2_look_X2 : ∀ w ∈ wsX20, w ∈ wsX2_look := by decide +kernel
set_option maxRecDepth 20000 in
theorem fl_X2_look_9 : Cond.fieldLink RX2 9 "PotLabels$Labelling" "rivals" "[I" ∈ wsX2_look := by decide +kernel
set_option maxRecDepth 20000 in
theorem in_X2_needOf_X2 : ∀ w ∈ wsX20, w ∈ wsX2_needOf := by decide +kernel
set_option maxRecDepth 20000 in
theorem fl_X2_needOf_15 : Cond.fieldLink RX2 15 "PotLabels$Labelling" "peaceful" "[Z" ∈ wsX2_needOf := by decide +kernel
set_option maxRecDepth 20000 in
theorem fl_X2_needOf_19 : Cond.fieldLink RX2 19 "PotLabels$Labelling" "needs" "[I" ∈ wsX2_needOf := by decide +kernel
set_option maxRecDepth 20000 in
theorem ml_X2_needOf_35 : Cond.methodLink RX2 35 Lib.Math.min.name ∈ wsX2_needOf := by decide +kernel
set_option maxRecDepth 20000 in
theorem ms_X2_needOf_min : Cond.static Lib.Math.min.name ∈ wsX2_needOf := by decide +kernel
set_option maxRecDepth 20000 in
theorem mi_X2_needOf : Cond.initialized "java/lang/Math" ∈ wsX2_needOf := by decide +kernel
set_option maxRecDepth 20000 in
theorem mc_X2_needOf_min : Cond.code Lib.Math.min.name Lib.Math.min.code 2 (some .int) ∈ wsX2_needOf := by decide +kernel
set_option maxRecDepth 20000 in
theorem in_X2_fewestBySets_X2 : ∀ w ∈ wsX20, w ∈ wsX2_fewestBySets := by decide +kernel
set_option maxRecDepth 20000 in
theorem fl_X2_fewestBySets_15 : Cond.fieldLink RX2 15 "PotLabels$Labelling" "peaceful" "[Z" ∈ wsX2_fewestBySets := by decide +kernel
set_option maxRecDepth 20000 in
theorem fl_X2_fewestBySets_19 : Cond.fieldLink RX2 19 "PotLabels$Labelling" "needs" "[I" ∈ wsX2_fewestBySets := by decide +kernel
set_option maxRecDepth 20000 in
theorem kd_X2_needOf : yX2_needOf.cls = RX2 ∧ yX2_needOf.cls ≠ "java/lang/invoke/MethodHandle" ∧ yX2_needOf.cls ≠ "java/lang/invoke/VarHandle" ∧ (parseMethodDescriptor yX2_needOf.desc).map (fun d => d.parameters.length) = some 2 := by decide +kernel
set_option maxRecDepth 20000 in
theorem fl_X2_fewestBySets_9 : Cond.fieldLink RX2 9 "PotLabels$Labelling" "rivals" "[I" ∈ wsX2_fewestBySets := by decide +kernel
theorem mk31 (T : Nat → Bool) {n : Nat} (h : n ≤ 8) : mkm T n < 2 ^ 31 := Nat.lt_trans (mkm_lt T n) (Nat.pow_lt_pow_right (by decide) (by omega))
theorem p31 {n : Nat} (h : n ≤ 8) : 2 ^ n < 2 ^ 31 := Nat.pow_lt_pow_right (by decide) (by omega)
theorem mn_N {x y z : Nat} (h1 : x < 2 ^ 31) (h2 : y < 2 ^ 31) (h3 : (y < x → z = y) ∧ (x ≤ y → z = x)) : (if nI y < nI x then nI y else nI x) = nI z := by
  by_cases e : y < x
  · rw [if_pos ((nI_ltI h2 h1).mpr e), h3.1 e]
  · rw [if_neg (fun q => e ((nI_ltI h2 h1).mp q)), h3.2 (Nat.not_lt.mp e)]
theorem or_pl {v b : Nat} (h : b < 2 ^ v) : 2 ^ v ||| b = 2 ^ v + b := by
  have := Nat.two_pow_add_eq_or_of_lt h 1
  rw [Nat.mul_one] at this; exact this.symm

theorem lt_or (q i : Nat) (h : q < i + 1) : q < i ∨ q = i := by omega

set_option maxHeartbeats 4000000 in
set_option maxRecDepth 100000 in
theorem ct_look {l : Launch} {G : GG} {M : MM} {σ : Sg} (hB : Bu M 0 σ) (hW : Wf σ) {p : Nat} (hp : p < 4) : Ct l G yX2_look wsX2_look 5 ([.ref (G.2.2 79), .ref (G.2.2 0), .int (nI p)] : List Value) M (fun v9 M9 => v9 = none ∧ (∀ i, i < 8 → M9.1 80 i = nI (mkm (ap σ p i) 8)) ∧ Off M M9 (fun a => a = 80)) := by
  refine Ct.of (cc := cX2_look) (maxL := 5) (ret := none) (lv := [(0, .ref (G.2.2 79)), (1, .ref (G.2.2 0)), (2, .int (nI p))]) (by decide) rfl rfl (Nat.le_of_ble_eq_true rfl) ?_
  intro pg ev sg mm bl mt cd AZ C hret
  refine j_iconst C dX2_look_0 (v := nI 0) (by decide) ?_
  refine j_istore_n C dX2_look_1 (by decide) ?_
  have L2 : ∀ i, i ≤ 8 → ∀ M2 : MM, (∀ q, q < i → M2.1 80 q = nI (mkm (ap σ p q) 8)) → Off M M2 (fun a => a = 80) → J G pg l ev (rmD 5) sg mm ([.ref (G.2.2 79), .ref (G.2.2 0), .int (nI p)] : List Value).toArray bl mt cd AZ 5 (MQ bl (QQ G (fun v9 M9 => v9 = none ∧ (∀ i, i < 8 → M9.1 80 i = nI (mkm (ap σ p i) 8)) ∧ Off M M9 (fun a => a = 80)) AZ) ([.ref (G.2.2 79), .ref (G.2.2 0), .int (nI p)] : List Value).toArray sg 0 0 AZ) 0 0 2 [(0, .ref (G.2.2 79)), (1, .ref (G.2.2 0)), (2, .int (nI p)), (3, .int (nI i))] [] (M2) := by
    refine dnto ?_
    intro i hi2 ih2 M2 hr2 ho2
    refine j_iload_n C dX2_look_2 rfl ?_
    refine j_bipush C dX2_look_3 (v := nI 8) (by decide) ?_
    refine j_icmp_geN C dX2_look_5 (tgt := 61) (by decide) (by omega) (by omega) (fun cq5 => ?_) (fun cq5 => ?_)
    · exact j_return C hret dX2_look_61 ⟨rfl, fun q hq => hr2 q (by omega), ho2⟩
    · refine j_aload_n C dX2_look_8 rfl ?_
      refine j_getf C dX2_look_9 rfl (by decide) (T := TX2) rfl in_X2_look_X2 (k := 0) (by decide) fl_X2_look_9 rfl rfl ?_
      refine j_iload_n C dX2_look_12 rfl ?_
      refine j_iconst C dX2_look_13 (v := nI 0) (by decide) ?_
      refine j_iastN C dX2_look_14 (show ilen 80 = some 8 from rfl) (by omega) (by decide) ?_
      refine j_iconst C dX2_look_15 (v := nI 0) (by decide) ?_
      refine j_istore C dX2_look_16 (by decide) ?_
      have L18 : ∀ j, j ≤ 8 → ∀ M3 : MM, (∀ q, q < i → M3.1 80 q = nI (mkm (ap σ p q) 8)) → M3.1 80 i = nI (mkm (ap σ p i) j) → Off M M3 (fun a => a = 80) → J G pg l ev (rmD 5) sg mm ([.ref (G.2.2 79), .ref (G.2.2 0), .int (nI p)] : List Value).toArray bl mt cd AZ 5 (MQ bl (QQ G (fun v9 M9 => v9 = none ∧ (∀ i, i < 8 → M9.1 80 i = nI (mkm (ap σ p i) 8)) ∧ Off M M9 (fun a => a = 80)) AZ) ([.ref (G.2.2 79), .ref (G.2.2 0), .int (nI p)] : List Value).toArray sg 0 0 AZ) 0 0 18 [(0, .ref (G.2.2 79)), (1, .ref (G.2.2 0)), (2, .int (nI p)), (3, .int (nI i)), (4, .int (nI j))] [] (M3) := by
        refine dnto ?_
        intro j hj18 ih18 M3 hr3 h3 ho3
        have hB3 : Bu M3 0 σ := hB.off ho3 (fun k hk => by omega)
        refine j_iload C dX2_look_18 rfl ?_
        refine j_bipush C dX2_look_20 (v := nI 8) (by decide) ?_
        refine j_icmp_geN C dX2_look_22 (tgt := 55) (by decide) (by omega) (by omega) (fun cq22 => ?_) (fun cq22 => ?_)
        · refine j_iincN C dX2_look_55 rfl (by decide) ?_
          refine j_goto C dX2_look_58 (tgt := 2) (by decide) ?_
          exact j_pick [0, 1, 2, 3] (ih2 (by omega) M3 (fun q hq => (lt_or q i hq).elim (fun a => hr3 q a) (fun a => by rw [a, h3, show j = 8 by omega])) ho3)
        · refine j_aload_n C dX2_look_25 rfl ?_
          refine j_iload_n C dX2_look_26 rfl ?_
          refine j_iload_n C dX2_look_27 rfl ?_
          refine j_iload C dX2_look_28 rfl ?_
          refine j_callV C (ct_tells (b := 0) (by decide) hB3 hW hp (by omega) (by omega)) dX2_look_30 (cell_B (by decide)) (by decide) (T := TX0) rfl gX2_look_X0_tells rfl kd_X0_tells rfl rfl (Nat.le_of_ble_eq_true rfl) ⟨by decide, by decide⟩ ⟨Nat.zero_le _, Nat.zero_le _⟩ (k_I ?_)
          refine j_if_eqB C dX2_look_33 (tgt := 49) (by decide) (fun cq33 => ?_) (fun cq33 => ?_)
          · refine j_iincN C dX2_look_49 rfl (by decide) ?_
            refine j_goto C dX2_look_52 (tgt := 18) (by decide) ?_
            exact ih18 (by omega) M3 hr3 (by rw [mkm_s, cq33, h3]; exact congrArg nI (Nat.or_zero _).symm) ho3
          · refine j_aload_n C dX2_look_36 rfl ?_
            refine j_getf C dX2_look_37 rfl (by decide) (T := TX2) rfl in_X2_look_X2 (k := 0) (by decide) fl_X2_look_9 rfl rfl ?_
            refine j_iload_n C dX2_look_40 rfl ?_
            refine j_dup2 C dX2_look_41 rfl rfl ?_
            refine j_ialdN C dX2_look_42 (show ilen 80 = some 8 from rfl) (by omega) (by decide) ?_
            refine j_top C _ h3 ?_
            refine j_iconst C dX2_look_43 (v := nI 1) (by decide) ?_
            refine j_iload C dX2_look_44 rfl ?_
            refine j_ishl C dX2_look_46 ?_
            refine j_top C (_) (nI_shl1 (by omega)) ?_
            refine j_ior C dX2_look_47 ?_
            refine j_top C (_) (nI_or (mk31 _ (by omega)) (p31 (by omega))) ?_
            refine j_iastN C dX2_look_48 (show ilen 80 = some 8 from rfl) (by omega) (by decide) ?_
            refine j_iincN C dX2_look_49 rfl (by decide) ?_
            refine j_goto C dX2_look_52 (tgt := 18) (by decide) ?_
            exact ih18 (by omega) _ (fun q hq => by rw [setR_eq, upd_ne (by omega)]; exact hr3 q hq) (by rw [setR_eq, upd_eq, mkm_s, cq33]; rfl) (ho3.tr (Off.R rfl))
      exact L18 0 (by omega) _ (fun q hq => by rw [setR_eq, upd_ne (by omega)]; exact hr2 q hq) (by rw [setR_eq, upd_eq]; rfl) (ho2.tr (Off.R rfl))
  exact L2 0 (by omega) M (fun q hq => absurd hq (Nat.not_lt_zero q)) Off.rf

theorem mn_P {P : Nat → Prop} {a b : Nat} (h1 : P a) (h2 : P b) : P (min a b) := by
  rcases Nat.le_total a b with q | q
  · rw [Nat.min_eq_left q]; exact h1
  · rw [Nat.min_eq_right q]; exact h2

set_option maxHeartbeats 4000000 in
set_option maxRecDepth 100000 in
theorem ct_needOf {l : Launch} {G : GG} {M : MM} {R : Nat → Nat → Bool} {nd : Nat → Nat} (hnd : ∀ m, Chi R (bit m) (nd m)) (hr : ∀ i, R i i = false) {v lw : Nat} (hv : v < 8) (hl : lw < 2 ^ v) (hpf : ∀ m, 2 ^ v ≤ m → m ≤ 2 ^ v + lw → M.1 81 m = bI (pcB R m)) (hnn : ∀ m, m < 2 ^ v → M.1 82 m = nI (nd m)) : Ct l G yX2_needOf wsX2_needOf 2 ([.ref (G.2.2 79), .int (nI (2 ^ v)), .int (nI lw)] : List Value) M (rI (nI (nd (2 ^ v ||| lw))) M) := by
  have h8 : 2 ^ v ≤ 128 := Nat.pow_le_pow_right (n := 2) (by decide) (show v ≤ 7 by omega)
  have hol : 2 ^ v ||| lw = 2 ^ v + lw := or_pl hl
  refine Ct.of (cc := cX2_needOf) (maxL := 5) (ret := (some .int)) (lv := [(0, .ref (G.2.2 79)), (1, .int (nI (2 ^ v))), (2, .int (nI lw))]) (by decide) rfl rfl (Nat.le_of_ble_eq_true rfl) ?_
  intro pg ev sg mm bl mt cd AZ C hret
  refine j_bipush C dX2_needOf_0 (v := nI 8) (by decide) ?_
  refine j_istore_n C dX2_needOf_2 (by decide) ?_
  refine j_iconst C dX2_needOf_3 (v := nI 0) (by decide) ?_
  refine j_istore C dX2_needOf_4 (by decide) ?_
  have L6 : ∀ t, t ≤ lw + 1 → ∀ acc, Cob R (bit (2 ^ v ||| lw)) acc → acc ≤ 8 → (∀ u, u < t → u &&& lw = u → Pce R (bit (2 ^ v ||| u)) → acc ≤ nd (lw ^^^ u) + 1) → J G pg l ev (rmD 2) sg mm ([.ref (G.2.2 79), .int (nI (2 ^ v)), .int (nI lw)] : List Value).toArray bl mt cd AZ 5 (MQ bl (QQ G (rI (nI (nd (2 ^ v ||| lw))) M) AZ) ([.ref (G.2.2 79), .int (nI (2 ^ v)), .int (nI lw)] : List Value).toArray sg 0 0 AZ) 0 0 6 [(0, .ref (G.2.2 79)), (1, .int (nI (2 ^ v))), (2, .int (nI lw)), (3, .int (nI acc)), (4, .int (nI t))] [] (M) := by
    refine dnto ?_
    intro t ht6 ih6 acc hc h9 hu
    have hand : t &&& lw ≤ lw := Nat.and_le_right
    refine j_iload C dX2_needOf_6 rfl ?_
    refine j_iload_n C dX2_needOf_8 rfl ?_
    refine j_icmp_gtN C dX2_needOf_9 (tgt := 55) (by decide) (by omega) (by omega) (fun cq9 => ?_) (fun cq9 => ?_)
    · have e9 := dp_is hnd hv hl hc (fun u hu2 a b => hu u (by omega) a b)
      refine j_iload_n C dX2_needOf_55 rfl ?_
      exact j_ireturn C hret dX2_needOf_56 ⟨by rw [e9], rfl⟩
    · refine j_iload C dX2_needOf_12 rfl ?_
      refine j_iload_n C dX2_needOf_14 rfl ?_
      refine j_iand C dX2_needOf_15 ?_
      refine j_top C (_) (nI_and (by omega) (by omega)) ?_
      refine j_iload C dX2_needOf_16 rfl ?_
      refine j_icmp_neN C dX2_needOf_18 (tgt := 49) (by decide) (by omega) (by omega) (fun cq18 => ?_) (fun cq18 => ?_)
      · refine j_iincN C dX2_needOf_49 rfl (by decide) ?_
        refine j_goto C dX2_needOf_52 (tgt := 6) (by decide) ?_
        exact ih6 (by omega) acc hc h9 (fun u hu2 a b => (lt_or u t hu2).elim (fun q => hu u q a b) (fun q => absurd (q ▸ a) cq18))
      · have ht2 : t ≤ lw := by omega
        have hor : 2 ^ v ||| t = 2 ^ v + t := or_pl (by omega)
        have hxo : lw ^^^ t < 2 ^ v := Nat.xor_lt_two_pow hl (by omega)
        have hn8 := (hnd (lw ^^^ t)).le8 hr
        refine j_aload_n C dX2_needOf_21 rfl ?_
        refine j_getf C dX2_needOf_22 rfl (by decide) (T := TX2) rfl in_X2_needOf_X2 (k := 1) (by decide) fl_X2_needOf_15 rfl rfl ?_
        refine j_iload_n C dX2_needOf_25 rfl ?_
        refine j_iload C dX2_needOf_26 rfl ?_
        refine j_ior C dX2_needOf_28 ?_
        refine j_top C (_) (nI_or (by omega) (by omega)) ?_
        refine j_zaldN C dX2_needOf_29 rfl (by omega) (by decide) ?_
        refine j_top C _ (hpf _ (by omega) (by omega)) ?_
        refine j_if_eqB C dX2_needOf_30 (tgt := 49) (by decide) (fun cq30 => ?_) (fun cq30 => ?_)
        · refine j_iincN C dX2_needOf_49 rfl (by decide) ?_
          refine j_goto C dX2_needOf_52 (tgt := 6) (by decide) ?_
          exact ih6 (by omega) acc hc h9 (fun u hu2 a b => (lt_or u t hu2).elim (fun q => hu u q a b) (fun q => by subst q; rw [pcB_iff.mpr b] at cq30; cases cq30))
        · refine j_iload_n C dX2_needOf_33 rfl ?_
          refine j_aload_n C dX2_needOf_34 rfl ?_
          refine j_getf C dX2_needOf_35 rfl (by decide) (T := TX2) rfl in_X2_needOf_X2 (k := 2) (by decide) fl_X2_needOf_19 rfl rfl ?_
          refine j_iload_n C dX2_needOf_38 rfl ?_
          refine j_iload C dX2_needOf_39 rfl ?_
          refine j_ixor C dX2_needOf_41 ?_
          refine j_top C (_) (nI_xor (by omega) (by omega)) ?_
          refine j_ialdN C dX2_needOf_42 (show ilen 82 = some 256 from rfl) (by omega) (by decide) ?_
          refine j_top C _ (hnn _ hxo) ?_
          refine j_iconst C dX2_needOf_43 (v := nI 1) (by decide) ?_
          refine j_iaddN C dX2_needOf_44 ?_
          refine j_mmin C dX2_needOf_45 ml_X2_needOf_35 ms_X2_needOf_min mi_X2_needOf mc_X2_needOf_min (by decide) (Nat.le_of_ble_eq_true rfl) ⟨Nat.zero_le _, Nat.zero_le _⟩ ?_
          refine j_top C (_) (mn_N (z := min (nd (lw ^^^ t) + 1) acc) (by omega) (by omega) (by omega)) ?_
          refine j_istore_n C dX2_needOf_48 (by decide) ?_
          refine j_iincN C dX2_needOf_49 rfl (by decide) ?_
          refine j_goto C dX2_needOf_52 (tgt := 6) (by decide) ?_
          exact ih6 (by omega) (min (nd (lw ^^^ t) + 1) acc) (mn_P (dp_ach cq18 hl (pcB_iff.mp cq30) (hnd _).1) hc) (Nat.le_trans (Nat.min_le_right _ _) h9) (fun u hu2 a b => (lt_or u t hu2).elim (fun q => Nat.le_trans (Nat.min_le_right _ _) (hu u q a b)) (fun q => by subst q; exact Nat.min_le_left _ _))
  exact L6 0 (by omega) 8 (Cob.full hr) (by omega) (fun u hu => absurd hu (Nat.not_lt_zero u))

set_option maxHeartbeats 4000000 in
set_option maxRecDepth 100000 in
theorem ct_fewestBySets {l : Launch} {G : GG} {M : MM} {R : Nat → Nat → Bool} {nd : Nat → Nat} (hnd : ∀ m, Chi R (bit m) (nd m)) (hr : ∀ i, R i i = false) (hy : ∀ i j, R i j = R j i) (hrv : ∀ i, i < 8 → M.1 80 i = nI (mkm (R i) 8)) : Ct l G yX2_fewestBySets wsX2_fewestBySets 3 ([.ref (G.2.2 79)] : List Value) M (fun v9 M9 => v9 = some (.int (nI (nd 255))) ∧ Off M M9 (fun a => a = 81 ∨ a = 82)) := by
  have nd0 : nd 0 = 0 := Nat.le_zero.mp ((hnd 0).2 0 ⟨fun _ => 0, fun i hi h => (by rw [bit_0] at h; cases h), fun i j hi hj h => (by rw [bit_0] at h; cases h)⟩)
  refine Ct.of (cc := cX2_fewestBySets) (maxL := 4) (ret := (some .int)) (lv := [(0, .ref (G.2.2 79))]) (by decide) rfl rfl (Nat.le_of_ble_eq_true rfl) ?_
  intro pg ev sg mm bl mt cd AZ C hret
  refine j_aload_n C dX2_fewestBySets_0 rfl ?_
  refine j_getf C dX2_fewestBySets_1 rfl (by decide) (T := TX2) rfl in_X2_fewestBySets_X2 (k := 1) (by decide) fl_X2_fewestBySets_15 rfl rfl ?_
  refine j_iconst C dX2_fewestBySets_4 (v := nI 0) (by decide) ?_
  refine j_iconst C dX2_fewestBySets_5 (v := nI 1) (by decide) ?_
  refine j_top C (bI true) rfl ?_
  refine j_zastN C dX2_fewestBySets_6 rfl (by omega) (by decide) ?_
  refine j_aload_n C dX2_fewestBySets_7 rfl ?_
  refine j_getf C dX2_fewestBySets_8 rfl (by decide) (T := TX2) rfl in_X2_fewestBySets_X2 (k := 2) (by decide) fl_X2_fewestBySets_19 rfl rfl ?_
  refine j_iconst C dX2_fewestBySets_11 (v := nI 0) (by decide) ?_
  refine j_iconst C dX2_fewestBySets_12 (v := nI 0) (by decide) ?_
  refine j_iastN C dX2_fewestBySets_13 (show ilen 82 = some 256 from rfl) (by omega) (by decide) ?_
  refine j_iconst C dX2_fewestBySets_14 (v := nI 0) (by decide) ?_
  refine j_istore_n C dX2_fewestBySets_15 (by decide) ?_
  have L16 : ∀ v, v ≤ 8 → ∀ M2 : MM, (∀ m, m < 2 ^ v → M2.1 81 m = bI (pcB R m) ∧ M2.1 82 m = nI (nd m)) → Off M M2 (fun a => a = 81 ∨ a = 82) → J G pg l ev (rmD 3) sg mm ([.ref (G.2.2 79)] : List Value).toArray bl mt cd AZ 4 (MQ bl (QQ G (fun v9 M9 => v9 = some (.int (nI (nd 255))) ∧ Off M M9 (fun a => a = 81 ∨ a = 82)) AZ) ([.ref (G.2.2 79)] : List Value).toArray sg 0 0 AZ) 0 0 16 [(0, .ref (G.2.2 79)), (1, .int (nI v))] [] (M2) := by
    refine dnto ?_
    intro v hv16 ih16 M2 hs2 ho2
    have h256 : 2 ^ v ≤ 256 := Nat.pow_le_pow_right (n := 2) (by decide) hv16
    refine j_iload_n C dX2_fewestBySets_16 rfl ?_
    refine j_bipush C dX2_fewestBySets_17 (v := nI 8) (by decide) ?_
    refine j_icmp_geN C dX2_fewestBySets_19 (tgt := 92) (by decide) (by omega) (by omega) (fun cq19 => ?_) (fun cq19 => ?_)
    · refine j_aload_n C dX2_fewestBySets_92 rfl ?_
      refine j_getf C dX2_fewestBySets_93 rfl (by decide) (T := TX2) rfl in_X2_fewestBySets_X2 (k := 2) (by decide) fl_X2_fewestBySets_19 rfl rfl ?_
      refine j_sipush C dX2_fewestBySets_96 (v := nI 255) (by decide) ?_
      refine j_ialdN C dX2_fewestBySets_99 (show ilen 82 = some 256 from rfl) (by omega) (by decide) ?_
      refine j_top C _ ((hs2 255 (by rw [show v = 8 by omega]; decide)).2) ?_
      exact j_ireturn C hret dX2_fewestBySets_100 ⟨rfl, ho2⟩
    · have h128 : 2 ^ v ≤ 128 := Nat.pow_le_pow_right (n := 2) (by decide) (show v ≤ 7 by omega)
      refine j_iconst C dX2_fewestBySets_22 (v := nI 1) (by decide) ?_
      refine j_iload_n C dX2_fewestBySets_23 rfl ?_
      refine j_ishl C dX2_fewestBySets_24 ?_
      refine j_top C (_) (nI_shl1 (by omega)) ?_
      refine j_istore_n C dX2_fewestBySets_25 (by decide) ?_
      refine j_iconst C dX2_fewestBySets_26 (v := nI 0) (by decide) ?_
      refine j_istore_n C dX2_fewestBySets_27 (by decide) ?_
      have L28 : ∀ lw, lw ≤ 2 ^ v → ∀ M3 : MM, (∀ m, m < 2 ^ v + lw → M3.1 81 m = bI (pcB R m) ∧ M3.1 82 m = nI (nd m)) → Off M M3 (fun a => a = 81 ∨ a = 82) → J G pg l ev (rmD 3) sg mm ([.ref (G.2.2 79)] : List Value).toArray bl mt cd AZ 4 (MQ bl (QQ G (fun v9 M9 => v9 = some (.int (nI (nd 255))) ∧ Off M M9 (fun a => a = 81 ∨ a = 82)) AZ) ([.ref (G.2.2 79)] : List Value).toArray sg 0 0 AZ) 0 0 28 [(0, .ref (G.2.2 79)), (1, .int (nI v)), (2, .int (nI (2 ^ v))), (3, .int (nI lw))] [] (M3) := by
        refine dnto ?_
        intro lw hl28 ih28 M3 hs3 ho3
        refine j_iload_n C dX2_fewestBySets_28 rfl ?_
        refine j_iload_n C dX2_fewestBySets_29 rfl ?_
        refine j_icmp_geN C dX2_fewestBySets_30 (tgt := 86) (by decide) (by omega) (by omega) (fun cq30 => ?_) (fun cq30 => ?_)
        · refine j_iincN C dX2_fewestBySets_86 rfl (by decide) ?_
          refine j_goto C dX2_fewestBySets_89 (tgt := 16) (by decide) ?_
          exact j_pick [0, 1] (ih16 (by omega) M3 (fun m hm => hs3 m (by rw [Nat.pow_succ] at hm; omega)) ho3)
        · have hl : lw < 2 ^ v := by omega
          have hor : 2 ^ v ||| lw = 2 ^ v + lw := or_pl hl
          have hal : mkm (R v) 8 &&& lw ≤ lw := Nat.and_le_right
          refine j_aload_n C dX2_fewestBySets_33 rfl ?_
          refine j_getf C dX2_fewestBySets_34 rfl (by decide) (T := TX2) rfl in_X2_fewestBySets_X2 (k := 1) (by decide) fl_X2_fewestBySets_15 rfl rfl ?_
          refine j_iload_n C dX2_fewestBySets_37 rfl ?_
          refine j_iload_n C dX2_fewestBySets_38 rfl ?_
          refine j_ior C dX2_fewestBySets_39 ?_
          refine j_top C (_) (nI_or (by omega) (by omega)) ?_
          refine j_aload_n C dX2_fewestBySets_40 rfl ?_
          refine j_getf C dX2_fewestBySets_41 rfl (by decide) (T := TX2) rfl in_X2_fewestBySets_X2 (k := 1) (by decide) fl_X2_fewestBySets_15 rfl rfl ?_
          refine j_iload_n C dX2_fewestBySets_44 rfl ?_
          refine j_zaldN C dX2_fewestBySets_45 rfl (by omega) (by decide) ?_
          refine j_top C _ ((hs3 lw (by omega)).1) ?_
          refine j_if_eqB C dX2_fewestBySets_46 (tgt := 64) (by decide) (fun cq46 => ?_) (fun cq46 => ?_)
          · refine j_iconst C dX2_fewestBySets_64 (v := nI 0) (by decide) ?_
            refine j_top C (bI (pcB R (2 ^ v ||| lw))) (by rw [(pcB_s hy hr (by omega) (show lw < 2 ^ v from by omega))]; first | (rw [cq46, decide_eq_false cq57]; rfl) | (rw [cq46]; rfl)) ?_
            refine j_zastN C dX2_fewestBySets_65 rfl (by omega) (by decide) ?_
            refine j_aload_n C dX2_fewestBySets_66 rfl ?_
            refine j_getf C dX2_fewestBySets_67 rfl (by decide) (T := TX2) rfl in_X2_fewestBySets_X2 (k := 2) (by decide) fl_X2_fewestBySets_19 rfl rfl ?_
            refine j_iload_n C dX2_fewestBySets_70 rfl ?_
            refine j_iload_n C dX2_fewestBySets_71 rfl ?_
            refine j_ior C dX2_fewestBySets_72 ?_
            refine j_top C (_) (nI_or (by omega) (by omega)) ?_
            refine j_aload_n C dX2_fewestBySets_73 rfl ?_
            refine j_iload_n C dX2_fewestBySets_74 rfl ?_
            refine j_iload_n C dX2_fewestBySets_75 rfl ?_
            refine j_callV C (ct_needOf hnd hr (by omega) hl (fun m a b => by rcases Nat.lt_or_eq_of_le b with q | q; rw [setR_eq, upd_ne (by omega)]; exact (hs3 m q).1; rw [setR_eq, q, ← hor, upd_eq]) (fun m a => by rw [setR_ne (by decide)]; exact (hs3 m (by omega)).2)) dX2_fewestBySets_76 rfl (by decide) (T := TX2) rfl gX2_fewestBySets_X2_needOf rfl kd_X2_needOf rfl rfl (Nat.le_of_ble_eq_true rfl) ⟨by decide, by decide⟩ ⟨Nat.zero_le _, Nat.zero_le _⟩ (k_I ?_)
            refine j_iastN C dX2_fewestBySets_79 (show ilen 82 = some 256 from rfl) (by omega) (by decide) ?_
            refine j_iincN C dX2_fewestBySets_80 rfl (by decide) ?_
            refine j_goto C dX2_fewestBySets_83 (tgt := 28) (by decide) ?_
            exact ih28 (by omega) _ (fun m hm => (lt_or m (2 ^ v + lw) (by omega)).elim (fun q => ⟨by rw [setR_ne (by decide), setR_eq, upd_ne (by omega)]; exact (hs3 m q).1, by rw [setR_eq, upd_ne (by omega), setR_ne (by decide)]; exact (hs3 m q).2⟩) (fun q => by rw [q, ← hor]; exact ⟨by rw [setR_ne (by decide), setR_eq, upd_eq], by rw [setR_eq, upd_eq]⟩)) ((ho3.tr (Off.R (Or.inl rfl))).tr (Off.R (Or.inr rfl)))
          · refine j_aload_n C dX2_fewestBySets_49 rfl ?_
            refine j_getf C dX2_fewestBySets_50 rfl (by decide) (T := TX2) rfl in_X2_fewestBySets_X2 (k := 0) (by decide) fl_X2_fewestBySets_9 rfl rfl ?_
            refine j_iload_n C dX2_fewestBySets_53 rfl ?_
            refine j_ialdN C dX2_fewestBySets_54 (show ilen 80 = some 8 from rfl) (by omega) (by decide) ?_
            refine j_top C _ (show M3.1 80 v = nI (mkm (R v) 8) from by rw [(ho3.1 80 (by omega)).1]; exact hrv v (by omega)) ?_
            refine j_iload_n C dX2_fewestBySets_55 rfl ?_
            refine j_iand C dX2_fewestBySets_56 ?_
            refine j_top C (_) (nI_and (mk31 _ (Nat.le_refl 8)) (by omega)) ?_
            refine j_if_neN C dX2_fewestBySets_57 (tgt := 64) (by decide) (by omega) (fun cq57 => ?_) (fun cq57 => ?_)
            · refine j_iconst C dX2_fewestBySets_64 (v := nI 0) (by decide) ?_
              refine j_top C (bI (pcB R (2 ^ v ||| lw))) (by rw [(pcB_s hy hr (by omega) (show lw < 2 ^ v from by omega))]; first | (rw [cq46, decide_eq_false cq57]; rfl) | (rw [cq46]; rfl)) ?_
              refine j_zastN C dX2_fewestBySets_65 rfl (by omega) (by decide) ?_
              refine j_aload_n C dX2_fewestBySets_66 rfl ?_
              refine j_getf C dX2_fewestBySets_67 rfl (by decide) (T := TX2) rfl in_X2_fewestBySets_X2 (k := 2) (by decide) fl_X2_fewestBySets_19 rfl rfl ?_
              refine j_iload_n C dX2_fewestBySets_70 rfl ?_
              refine j_iload_n C dX2_fewestBySets_71 rfl ?_
              refine j_ior C dX2_fewestBySets_72 ?_
              refine j_top C (_) (nI_or (by omega) (by omega)) ?_
              refine j_aload_n C dX2_fewestBySets_73 rfl ?_
              refine j_iload_n C dX2_fewestBySets_74 rfl ?_
              refine j_iload_n C dX2_fewestBySets_75 rfl ?_
              refine j_callV C (ct_needOf hnd hr (by omega) hl (fun m a b => by rcases Nat.lt_or_eq_of_le b with q | q; rw [setR_eq, upd_ne (by omega)]; exact (hs3 m q).1; rw [setR_eq, q, ← hor, upd_eq]) (fun m a => by rw [setR_ne (by decide)]; exact (hs3 m (by omega)).2)) dX2_fewestBySets_76 rfl (by decide) (T := TX2) rfl gX2_fewestBySets_X2_needOf rfl kd_X2_needOf rfl rfl (Nat.le_of_ble_eq_true rfl) ⟨by decide, by decide⟩ ⟨Nat.zero_le _, Nat.zero_le _⟩ (k_I ?_)
              refine j_iastN C dX2_fewestBySets_79 (show ilen 82 = some 256 from rfl) (by omega) (by decide) ?_
              refine j_iincN C dX2_fewestBySets_80 rfl (by decide) ?_
              refine j_goto C dX2_fewestBySets_83 (tgt := 28) (by decide) ?_
              exact ih28 (by omega) _ (fun m hm => (lt_or m (2 ^ v + lw) (by omega)).elim (fun q => ⟨by rw [setR_ne (by decide), setR_eq, upd_ne (by omega)]; exact (hs3 m q).1, by rw [setR_eq, upd_ne (by omega), setR_ne (by decide)]; exact (hs3 m q).2⟩) (fun q => by rw [q, ← hor]; exact ⟨by rw [setR_ne (by decide), setR_eq, upd_eq], by rw [setR_eq, upd_eq]⟩)) ((ho3.tr (Off.R (Or.inl rfl))).tr (Off.R (Or.inr rfl)))
            · refine j_iconst C dX2_fewestBySets_60 (v := nI 1) (by decide) ?_
              refine j_top C (bI (pcB R (2 ^ v ||| lw))) (by rw [(pcB_s hy hr (by omega) (show lw < 2 ^ v from by omega)), cq46, decide_eq_true cq57]; rfl) ?_
              refine j_goto C dX2_fewestBySets_61 (tgt := 65) (by decide) ?_
              refine j_zastN C dX2_fewestBySets_65 rfl (by omega) (by decide) ?_
              refine j_aload_n C dX2_fewestBySets_66 rfl ?_
              refine j_getf C dX2_fewestBySets_67 rfl (by decide) (T := TX2) rfl in_X2_fewestBySets_X2 (k := 2) (by decide) fl_X2_fewestBySets_19 rfl rfl ?_
              refine j_iload_n C dX2_fewestBySets_70 rfl ?_
              refine j_iload_n C dX2_fewestBySets_71 rfl ?_
              refine j_ior C dX2_fewestBySets_72 ?_
              refine j_top C (_) (nI_or (by omega) (by omega)) ?_
              refine j_aload_n C dX2_fewestBySets_73 rfl ?_
              refine j_iload_n C dX2_fewestBySets_74 rfl ?_
              refine j_iload_n C dX2_fewestBySets_75 rfl ?_
              refine j_callV C (ct_needOf hnd hr (by omega) hl (fun m a b => by rcases Nat.lt_or_eq_of_le b with q | q; rw [setR_eq, upd_ne (by omega)]; exact (hs3 m q).1; rw [setR_eq, q, ← hor, upd_eq]) (fun m a => by rw [setR_ne (by decide)]; exact (hs3 m (by omega)).2)) dX2_fewestBySets_76 rfl (by decide) (T := TX2) rfl gX2_fewestBySets_X2_needOf rfl kd_X2_needOf rfl rfl (Nat.le_of_ble_eq_true rfl) ⟨by decide, by decide⟩ ⟨Nat.zero_le _, Nat.zero_le _⟩ (k_I ?_)
              refine j_iastN C dX2_fewestBySets_79 (show ilen 82 = some 256 from rfl) (by omega) (by decide) ?_
              refine j_iincN C dX2_fewestBySets_80 rfl (by decide) ?_
              refine j_goto C dX2_fewestBySets_83 (tgt := 28) (by decide) ?_
              exact ih28 (by omega) _ (fun m hm => (lt_or m (2 ^ v + lw) (by omega)).elim (fun q => ⟨by rw [setR_ne (by decide), setR_eq, upd_ne (by omega)]; exact (hs3 m q).1, by rw [setR_eq, upd_ne (by omega), setR_ne (by decide)]; exact (hs3 m q).2⟩) (fun q => by rw [q, ← hor]; exact ⟨by rw [setR_ne (by decide), setR_eq, upd_eq], by rw [setR_eq, upd_eq]⟩)) ((ho3.tr (Off.R (Or.inl rfl))).tr (Off.R (Or.inr rfl)))
      exact L28 0 (Nat.zero_le _) M2 (fun m hm => hs2 m (by omega)) ho2
  exact L16 0 (by omega) _ (fun m hm => by rw [show m = 0 by omega]; exact ⟨by rw [setR_ne (by decide), setR_eq, upd_eq, pcB_0], by rw [setR_eq, upd_eq, nd0]⟩) ((Off.R (Or.inl rfl)).tr (Off.R (Or.inr rfl)))
