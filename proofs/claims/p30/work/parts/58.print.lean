set_option maxRecDepth 20000 in
theorem cst_L_at_7 : Cond.constant RL 7 (1063091095) ∈ wsL_at := by decide +kernel
set_option maxRecDepth 20000 in
theorem cst_L_at_8 : Cond.constant RL 8 (726494849) ∈ wsL_at := by decide +kernel
set_option maxRecDepth 20000 in
theorem cst_L_low_9 : Cond.constant RL 9 (2147483647) ∈ wsL_low := by decide +kernel
set_option maxRecDepth 20000 in
theorem cst_L_print_142 : Cond.constantLong RL 142 (19) ∈ wsL_print := by decide +kernel
set_option maxRecDepth 20000 in
theorem ks_L_count : yL_count.cls ≠ "java/lang/invoke/MethodHandle" ∧ yL_count.cls ≠ "java/lang/invoke/VarHandle" ∧ (parseMethodDescriptor yL_count.desc).map (fun d => d.parameters.length) = some 2 := by decide +kernel
set_option maxRecDepth 20000 in
theorem cst_L_print_144 : Cond.constantLong RL 144 (31) ∈ wsL_print := by decide +kernel
set_option maxRecDepth 20000 in
theorem ks_L_chartOf : yL_chartOf.cls ≠ "java/lang/invoke/MethodHandle" ∧ yL_chartOf.cls ≠ "java/lang/invoke/VarHandle" ∧ (parseMethodDescriptor yL_chartOf.desc).map (fun d => d.parameters.length) = some 3 := by decide +kernel
set_option maxRecDepth 20000 in
theorem ks_L_painterOf : yL_painterOf.cls ≠ "java/lang/invoke/MethodHandle" ∧ yL_painterOf.cls ≠ "java/lang/invoke/VarHandle" ∧ (parseMethodDescriptor yL_painterOf.desc).map (fun d => d.parameters.length) = some 3 := by decide +kernel
set_option maxRecDepth 20000 in
theorem ks_L_potOf : yL_potOf.cls ≠ "java/lang/invoke/MethodHandle" ∧ yL_potOf.cls ≠ "java/lang/invoke/VarHandle" ∧ (parseMethodDescriptor yL_potOf.desc).map (fun d => d.parameters.length) = some 3 := by decide +kernel
set_option maxHeartbeats 4000000 in
set_option maxRecDepth 100000 in
theorem cl_at {l : Launch} {G : GG} {M : MM} {b L k : Nat} {xs : Nat → Int32} (hk : k < 2 ^ 31) (hL : L < 2 ^ 31) : Cs l G yL_at wsL_at 1 ([.ref b, .int (nI k)] : List Value) M b L xs (fun v9 M9 => ∃ r : Int32, v9 = some (.int r) ∧ M9 = M) := by
  refine Cs.of (cc := cL_at) (maxL := 2) (ret := (some .int)) (lv := [(0, .ref b), (1, .int (nI k))]) (by decide) rfl rfl (Nat.le_of_ble_eq_true rfl) ?_
  intro pg ev sg mm bl mt cd AZ C hX9 hbl hbA hret
  refine j_iload_n C dL_at_0 rfl ?_
  refine j_aload_n C dL_at_1 rfl ?_
  refine j_slen C hX9 hbl hbA dL_at_2 ?_
  refine j_icmp_geN C dL_at_3 (tgt := 12) (by decide) hk hL (fun cq3 => ?_) (fun cq3 => ?_)
  · refine j_ldc C dL_at_12 cst_L_at_7 ?_
    refine j_iload_n C dL_at_14 rfl ?_
    refine j_iconst C dL_at_15 (v := nI 1) (by decide) ?_
    refine j_iadd C dL_at_16 ?_
    refine j_imul C dL_at_17 ?_
    refine j_ldc C dL_at_18 cst_L_at_8 ?_
    refine j_iadd C dL_at_20 ?_
    exact j_ireturn C hret dL_at_21 ⟨_, rfl, rfl⟩
  · refine j_aload_n C dL_at_6 rfl ?_
    refine j_iload_n C dL_at_7 rfl ?_
    refine j_sld C hX9 hbl hbA dL_at_8 cq3 hL ?_
    refine j_goto C dL_at_9 (tgt := 21) (by decide) ?_
    exact j_ireturn C hret dL_at_21 ⟨_, rfl, rfl⟩
set_option maxHeartbeats 4000000 in
set_option maxRecDepth 100000 in
theorem cl_low {l : Launch} {G : GG} {M : MM} {v : Int32} {n : Nat} (h0 : 0 < n) (hn : n < 2 ^ 31) : Ct l G yL_low wsL_low 1 ([.int v, .int (nI n)] : List Value) M (rI (nI (lw v n)) M) := by
  refine Ct.of (cc := cL_low) (maxL := 2) (ret := (some .int)) (lv := [(0, .int v), (1, .int (nI n))]) (by decide) rfl rfl (Nat.le_of_ble_eq_true rfl) ?_
  intro pg ev sg mm bl mt cd AZ C hret
  refine j_iload_n C dL_low_0 rfl ?_
  refine j_ldc C dL_low_1 cst_L_low_9 ?_
  refine j_iand C dL_low_3 ?_
  refine j_top C (nI (v.toBitVec.toNat &&& 2147483647)) (and31 v) ?_
  refine j_iload_n C dL_low_4 rfl ?_
  refine j_iremN C dL_low_5 (Nat.lt_of_le_of_lt Nat.and_le_right (by decide)) h0 hn ?_
  exact j_ireturn C hret dL_low_6 ⟨rfl, rfl⟩
theorem ad_pos {a b : Nat} (ha : a < 2 ^ 30) (hb : b < 2 ^ 30) (h : 0 ≤ nI a - nI b) : nI a - nI b = nI (ad a b) := by
  have := mabs_nI ha hb
  rw [if_pos h] at this
  exact this
theorem ad_neg {a b : Nat} (ha : a < 2 ^ 30) (hb : b < 2 ^ 30) (h : ¬ 0 ≤ nI a - nI b) : -(nI a - nI b) = nI (ad a b) := by
  have h2 := mabs_nI ha hb
  rw [if_neg h, Int32.zero_sub] at h2
  exact h2

set_option maxHeartbeats 4000000 in
set_option maxRecDepth 100000 in
theorem cl_far {l : Launch} {G : GG} {M : MM} {r g b r2 g2 b2 : Nat} (hr : r ≤ 9) (hg : g ≤ 9) (hb : b ≤ 9) (hr2 : r2 ≤ 9) (hg2 : g2 ≤ 9) (hb2 : b2 ≤ 9) : Ct l G yL_far wsL_far 1 ([.int (nI (cod r g b)), .int (nI (cod r2 g2 b2))] : List Value) M (rI (nI (ad r r2 + ad g g2 + ad b b2)) M) := by
  have hc1 := cod_lt hr hg hb
  have hc2 := cod_lt hr2 hg2 hb2
  refine Ct.of (cc := cL_far) (maxL := 5) (ret := (some .int)) (lv := [(0, .int (nI (cod r g b))), (1, .int (nI (cod r2 g2 b2)))]) (by decide) rfl rfl (Nat.le_of_ble_eq_true rfl) ?_
  intro pg ev sg mm bl mt cd AZ C hret
  refine j_iconst C dL_far_0 (v := nI 0) (by decide) ?_
  refine j_istore_n C dL_far_1 (by decide) ?_
  refine j_iconst C dL_far_2 (v := nI 1) (by decide) ?_
  refine j_istore_n C dL_far_3 (by decide) ?_
  refine j_iload_n C dL_far_4 rfl ?_
  refine j_sipush C dL_far_5 (v := nI 1000) (by decide) ?_
  refine j_icmp_geN C dL_far_8 (tgt := 50) (by decide) (by decide) (by decide) (fun q9 => absurd q9 (by decide)) (fun _ => ?_)
  refine j_iload_n C dL_far_11 rfl ?_
  refine j_iload_n C dL_far_12 rfl ?_
  refine j_idivN C dL_far_13 (by omega) (by decide) (by decide) ?_
  refine j_bipush C dL_far_14 (v := nI 10) (by decide) ?_
  refine j_iremN C dL_far_16 (Nat.lt_of_le_of_lt (Nat.div_le_self _ _) (by omega)) (by decide) (by decide) ?_
  refine j_top C (nI b) (congrArg nI (by unfold cod; omega)) ?_
  refine j_iload_n C dL_far_17 rfl ?_
  refine j_iload_n C dL_far_18 rfl ?_
  refine j_idivN C dL_far_19 (by omega) (by decide) (by decide) ?_
  refine j_bipush C dL_far_20 (v := nI 10) (by decide) ?_
  refine j_iremN C dL_far_22 (Nat.lt_of_le_of_lt (Nat.div_le_self _ _) (by omega)) (by decide) (by decide) ?_
  refine j_top C (nI b2) (congrArg nI (by unfold cod; omega)) ?_
  refine j_isub C dL_far_23 ?_
  refine j_istore C dL_far_24 (by decide) ?_
  refine j_iload_n C dL_far_26 rfl ?_
  refine j_cutI 40 (nI (ad b b2)) ?_ (fun K40 => ?_)
  rotate_left 1
  · refine j_iload C dL_far_27 rfl ?_
    refine j_if_ge C dL_far_29 (tgt := 38) (by decide) (fun cq29 => ?_) (fun cq29 => ?_)
    · refine j_iload C dL_far_38 rfl ?_
      refine j_top C (nI (ad b b2)) (ad_pos (by omega) (by omega) cq29) ?_
      exact K40
    · refine j_iload C dL_far_32 rfl ?_
      refine j_ineg C dL_far_34 ?_
      refine j_goto C dL_far_35 (tgt := 40) (by decide) ?_
      refine j_top C (nI (ad b b2)) (ad_neg (by omega) (by omega) cq29) ?_
      exact K40
  refine j_iaddN C dL_far_40 ?_
  refine j_istore_n C dL_far_41 (by decide) ?_
  refine j_iload_n C dL_far_42 rfl ?_
  refine j_bipush C dL_far_43 (v := nI 10) (by decide) ?_
  refine j_imulN C dL_far_45 ?_
  refine j_top C (nI 10) (by decide) ?_
  refine j_istore_n C dL_far_46 (by decide) ?_
  refine j_goto C dL_far_47 (tgt := 4) (by decide) ?_
  show J G pg l ev (rmD 1) sg mm _ bl mt cd AZ 5 _ 0 0 4 [(0, .int (nI (cod r g b))), (1, .int (nI (cod r2 g2 b2))), (2, .int (nI (0 + ad b b2))), (3, .int (nI 10)), (4, .int (nI b - nI b2))] [] M
  refine j_iload_n C dL_far_4 rfl ?_
  refine j_sipush C dL_far_5 (v := nI 1000) (by decide) ?_
  refine j_icmp_geN C dL_far_8 (tgt := 50) (by decide) (by decide) (by decide) (fun q9 => absurd q9 (by decide)) (fun _ => ?_)
  refine j_iload_n C dL_far_11 rfl ?_
  refine j_iload_n C dL_far_12 rfl ?_
  refine j_idivN C dL_far_13 (by omega) (by decide) (by decide) ?_
  refine j_bipush C dL_far_14 (v := nI 10) (by decide) ?_
  refine j_iremN C dL_far_16 (Nat.lt_of_le_of_lt (Nat.div_le_self _ _) (by omega)) (by decide) (by decide) ?_
  refine j_top C (nI g) (congrArg nI (by unfold cod; omega)) ?_
  refine j_iload_n C dL_far_17 rfl ?_
  refine j_iload_n C dL_far_18 rfl ?_
  refine j_idivN C dL_far_19 (by omega) (by decide) (by decide) ?_
  refine j_bipush C dL_far_20 (v := nI 10) (by decide) ?_
  refine j_iremN C dL_far_22 (Nat.lt_of_le_of_lt (Nat.div_le_self _ _) (by omega)) (by decide) (by decide) ?_
  refine j_top C (nI g2) (congrArg nI (by unfold cod; omega)) ?_
  refine j_isub C dL_far_23 ?_
  refine j_istore C dL_far_24 (by decide) ?_
  refine j_iload_n C dL_far_26 rfl ?_
  refine j_cutI 40 (nI (ad g g2)) ?_ (fun K40 => ?_)
  rotate_left 1
  · refine j_iload C dL_far_27 rfl ?_
    refine j_if_ge C dL_far_29 (tgt := 38) (by decide) (fun cq29 => ?_) (fun cq29 => ?_)
    · refine j_iload C dL_far_38 rfl ?_
      refine j_top C (nI (ad g g2)) (ad_pos (by omega) (by omega) cq29) ?_
      exact K40
    · refine j_iload C dL_far_32 rfl ?_
      refine j_ineg C dL_far_34 ?_
      refine j_goto C dL_far_35 (tgt := 40) (by decide) ?_
      refine j_top C (nI (ad g g2)) (ad_neg (by omega) (by omega) cq29) ?_
      exact K40
  refine j_iaddN C dL_far_40 ?_
  refine j_istore_n C dL_far_41 (by decide) ?_
  refine j_iload_n C dL_far_42 rfl ?_
  refine j_bipush C dL_far_43 (v := nI 10) (by decide) ?_
  refine j_imulN C dL_far_45 ?_
  refine j_top C (nI 100) (by decide) ?_
  refine j_istore_n C dL_far_46 (by decide) ?_
  refine j_goto C dL_far_47 (tgt := 4) (by decide) ?_
  show J G pg l ev (rmD 1) sg mm _ bl mt cd AZ 5 _ 0 0 4 [(0, .int (nI (cod r g b))), (1, .int (nI (cod r2 g2 b2))), (2, .int (nI (0 + ad b b2 + ad g g2))), (3, .int (nI 100)), (4, .int (nI g - nI g2))] [] M
  refine j_iload_n C dL_far_4 rfl ?_
  refine j_sipush C dL_far_5 (v := nI 1000) (by decide) ?_
  refine j_icmp_geN C dL_far_8 (tgt := 50) (by decide) (by decide) (by decide) (fun q9 => absurd q9 (by decide)) (fun _ => ?_)
  refine j_iload_n C dL_far_11 rfl ?_
  refine j_iload_n C dL_far_12 rfl ?_
  refine j_idivN C dL_far_13 (by omega) (by decide) (by decide) ?_
  refine j_bipush C dL_far_14 (v := nI 10) (by decide) ?_
  refine j_iremN C dL_far_16 (Nat.lt_of_le_of_lt (Nat.div_le_self _ _) (by omega)) (by decide) (by decide) ?_
  refine j_top C (nI r) (congrArg nI (by unfold cod; omega)) ?_
  refine j_iload_n C dL_far_17 rfl ?_
  refine j_iload_n C dL_far_18 rfl ?_
  refine j_idivN C dL_far_19 (by omega) (by decide) (by decide) ?_
  refine j_bipush C dL_far_20 (v := nI 10) (by decide) ?_
  refine j_iremN C dL_far_22 (Nat.lt_of_le_of_lt (Nat.div_le_self _ _) (by omega)) (by decide) (by decide) ?_
  refine j_top C (nI r2) (congrArg nI (by unfold cod; omega)) ?_
  refine j_isub C dL_far_23 ?_
  refine j_istore C dL_far_24 (by decide) ?_
  refine j_iload_n C dL_far_26 rfl ?_
  refine j_cutI 40 (nI (ad r r2)) ?_ (fun K40 => ?_)
  rotate_left 1
  · refine j_iload C dL_far_27 rfl ?_
    refine j_if_ge C dL_far_29 (tgt := 38) (by decide) (fun cq29 => ?_) (fun cq29 => ?_)
    · refine j_iload C dL_far_38 rfl ?_
      refine j_top C (nI (ad r r2)) (ad_pos (by omega) (by omega) cq29) ?_
      exact K40
    · refine j_iload C dL_far_32 rfl ?_
      refine j_ineg C dL_far_34 ?_
      refine j_goto C dL_far_35 (tgt := 40) (by decide) ?_
      refine j_top C (nI (ad r r2)) (ad_neg (by omega) (by omega) cq29) ?_
      exact K40
  refine j_iaddN C dL_far_40 ?_
  refine j_istore_n C dL_far_41 (by decide) ?_
  refine j_iload_n C dL_far_42 rfl ?_
  refine j_bipush C dL_far_43 (v := nI 10) (by decide) ?_
  refine j_imulN C dL_far_45 ?_
  refine j_top C (nI 1000) (by decide) ?_
  refine j_istore_n C dL_far_46 (by decide) ?_
  refine j_goto C dL_far_47 (tgt := 4) (by decide) ?_
  show J G pg l ev (rmD 1) sg mm _ bl mt cd AZ 5 _ 0 0 4 [(0, .int (nI (cod r g b))), (1, .int (nI (cod r2 g2 b2))), (2, .int (nI (0 + ad b b2 + ad g g2 + ad r r2))), (3, .int (nI 1000)), (4, .int (nI r - nI r2))] [] M
  refine j_iload_n C dL_far_4 rfl ?_
  refine j_sipush C dL_far_5 (v := nI 1000) (by decide) ?_
  refine j_icmp_geN C dL_far_8 (tgt := 50) (by decide) (by decide) (by decide) (fun _ => ?_) (fun q9 => absurd q9 (by decide))
  refine j_iload_n C dL_far_50 rfl ?_
  exact j_ireturn C hret dL_far_51 ⟨congrArg (fun z => some (Value.int (nI z))) (by omega), rfl⟩

/-! what is told, mixed to one number -/
def fld (f : Nat → Int32) (h : Int64) : Nat → Int64
  | 0 => h
  | n + 1 => 31 * fld f h n + (f n).toInt64
def prS (σ : Sg) : Int64 := fld (fun k => ofC σ (k / 3) (k % 3)) (fld (fun k => ofN σ (k / 7) (k % 7)) (fld (fun k => ofP σ (k / 4) (k % 4)) (fld (cn7 σ) 19 7) 32) 28) (3 * σ 44)

set_option maxHeartbeats 4000000 in
set_option maxRecDepth 100000 in
theorem cl_print {l : Launch} {G : GG} {M : MM} {σ : Sg} {n : Nat} {L : List Sg} (h : Xs M σ n L) : Ct l G yL_print wsL_print 13 ([.ref (G.2.2 72)] : List Value) M (rL (prS σ) M) := by
  have hW := h.wf
  have h44 := hW.2.2.1
  refine Ct.of (cc := cL_print) (maxL := 4) (ret := (some .long)) (lv := [(0, .ref (G.2.2 72))]) (by decide) rfl rfl (Nat.le_of_ble_eq_true rfl) ?_
  intro pg ev sg mm bl mt cd AZ C hret
  refine j_ldc2 C dL_print_0 cst_L_print_142 ?_
  refine j_lstore_n C dL_print_3 (by decide) ?_
  refine j_iconst C dL_print_4 (v := nI 0) (by decide) ?_
  refine j_istore_n C dL_print_5 (by decide) ?_
  have L6 : ∀ k, k ≤ 7 → J G pg l ev (rmD 13) sg mm ([.ref (G.2.2 72)] : List Value).toArray bl mt cd AZ 4 (MQ bl (QQ G (rL (prS σ) M) AZ) ([.ref (G.2.2 72)] : List Value).toArray sg 0 0 AZ) 0 0 6 [(0, .ref (G.2.2 72)), (1, .long (fld (cn7 σ) 19 k)), (3, .int (nI k))] [] (M) := by
    refine dnto ?_
    intro k hk6 ih6
    refine j_iload_n C dL_print_6 rfl ?_
    refine j_bipush C dL_print_7 (v := nI 7) (by decide) ?_
    refine j_icmp_geN C dL_print_9 (tgt := 31) (by decide) (by omega) (by omega) (fun cq9 => ?_) (fun cq9 => ?_)
    · have e7 : k = 7 := by omega
      subst e7
      refine j_iconst C dL_print_31 (v := nI 0) (by decide) ?_
      refine j_istore_n C dL_print_32 (by decide) ?_
      have L33 : ∀ k, k ≤ 32 → J G pg l ev (rmD 13) sg mm ([.ref (G.2.2 72)] : List Value).toArray bl mt cd AZ 4 (MQ bl (QQ G (rL (prS σ) M) AZ) ([.ref (G.2.2 72)] : List Value).toArray sg 0 0 AZ) 0 0 33 [(0, .ref (G.2.2 72)), (1, .long (fld (fun k => ofP σ (k / 4) (k % 4)) (fld (cn7 σ) 19 7) k)), (3, .int (nI k))] [] (M) := by
        refine dnto ?_
        intro k hk33 ih33
        refine j_iload_n C dL_print_33 rfl ?_
        refine j_bipush C dL_print_34 (v := nI 32) (by decide) ?_
        refine j_icmp_geN C dL_print_36 (tgt := 63) (by decide) (by omega) (by omega) (fun cq36 => ?_) (fun cq36 => ?_)
        · have e32 : k = 32 := by omega
          subst e32
          refine j_iconst C dL_print_63 (v := nI 0) (by decide) ?_
          refine j_istore_n C dL_print_64 (by decide) ?_
          have L65 : ∀ k, k ≤ 28 → J G pg l ev (rmD 13) sg mm ([.ref (G.2.2 72)] : List Value).toArray bl mt cd AZ 4 (MQ bl (QQ G (rL (prS σ) M) AZ) ([.ref (G.2.2 72)] : List Value).toArray sg 0 0 AZ) 0 0 65 [(0, .ref (G.2.2 72)), (1, .long (fld (fun k => ofN σ (k / 7) (k % 7)) (fld (fun k => ofP σ (k / 4) (k % 4)) (fld (cn7 σ) 19 7) 32) k)), (3, .int (nI k))] [] (M) := by
            refine dnto ?_
            intro k hk65 ih65
            refine j_iload_n C dL_print_65 rfl ?_
            refine j_bipush C dL_print_66 (v := nI 28) (by decide) ?_
            refine j_icmp_geN C dL_print_68 (tgt := 97) (by decide) (by omega) (by omega) (fun cq68 => ?_) (fun cq68 => ?_)
            · have e28 : k = 28 := by omega
              subst e28
              refine j_iconst C dL_print_97 (v := nI 0) (by decide) ?_
              refine j_istore_n C dL_print_98 (by decide) ?_
              have L99 : ∀ k, k ≤ 3 * σ 44 → J G pg l ev (rmD 13) sg mm ([.ref (G.2.2 72)] : List Value).toArray bl mt cd AZ 4 (MQ bl (QQ G (rL (prS σ) M) AZ) ([.ref (G.2.2 72)] : List Value).toArray sg 0 0 AZ) 0 0 99 [(0, .ref (G.2.2 72)), (1, .long (fld (fun k => ofC σ (k / 3) (k % 3)) (fld (fun k => ofN σ (k / 7) (k % 7)) (fld (fun k => ofP σ (k / 4) (k % 4)) (fld (cn7 σ) 19 7) 32) 28) k)), (3, .int (nI k))] [] (M) := by
                refine dnto ?_
                intro k hk99 ih99
                refine j_iload_n C dL_print_99 rfl ?_
                refine j_iconst C dL_print_100 (v := nI 3) (by decide) ?_
                refine j_aload_n C dL_print_101 rfl ?_
                refine j_iconst C dL_print_102 (v := nI 2) (by decide) ?_
                refine j_callSH C (x_ct2 h) dL_print_103 gL_print_L_count rfl ks_L_count rfl rfl (Nat.le_of_ble_eq_true rfl) ⟨by decide, by decide⟩ ⟨Nat.zero_le _, Nat.zero_le _⟩ (k_I ?_)
                refine j_imulN C dL_print_106 ?_
                refine j_icmp_geN C dL_print_107 (tgt := 134) (by decide) (by omega) (by omega) (fun cq107 => ?_) (fun cq107 => ?_)
                · have e44 : k = 3 * σ 44 := by omega
                  subst e44
                  refine j_lload_n C dL_print_134 rfl ?_
                  exact j_lreturn C hret dL_print_135 ⟨rfl, rfl⟩
                · refine j_ldc2 C dL_print_110 cst_L_print_144 ?_
                  refine j_lload_n C dL_print_113 rfl ?_
                  refine j_lmul C dL_print_114 ?_
                  refine j_aload_n C dL_print_115 rfl ?_
                  refine j_iload_n C dL_print_116 rfl ?_
                  refine j_iconst C dL_print_117 (v := nI 3) (by decide) ?_
                  refine j_idivN C dL_print_118 (by omega) (by decide) (by decide) ?_
                  refine j_iload_n C dL_print_119 rfl ?_
                  refine j_iconst C dL_print_120 (v := nI 3) (by decide) ?_
                  refine j_iremN C dL_print_121 (by omega) (by decide) (by decide) ?_
                  refine j_callSH C (x_cht h (by omega) (by omega)) dL_print_122 gL_print_L_chartOf rfl ks_L_chartOf rfl rfl (Nat.le_of_ble_eq_true rfl) ⟨by decide, by decide⟩ ⟨Nat.zero_le _, Nat.zero_le _⟩ (k_I ?_)
                  refine j_i2l C dL_print_125 ?_
                  refine j_ladd C dL_print_126 ?_
                  refine j_lstore_n C dL_print_127 (by decide) ?_
                  refine j_iincN C dL_print_128 rfl (by decide) ?_
                  refine j_goto C dL_print_131 (tgt := 99) (by decide) ?_
                  exact ih99 (by omega)
              exact L99 0 (by omega)
            · refine j_ldc2 C dL_print_71 cst_L_print_144 ?_
              refine j_lload_n C dL_print_74 rfl ?_
              refine j_lmul C dL_print_75 ?_
              refine j_aload_n C dL_print_76 rfl ?_
              refine j_iload_n C dL_print_77 rfl ?_
              refine j_bipush C dL_print_78 (v := nI 7) (by decide) ?_
              refine j_idivN C dL_print_80 (by omega) (by decide) (by decide) ?_
              refine j_iload_n C dL_print_81 rfl ?_
              refine j_bipush C dL_print_82 (v := nI 7) (by decide) ?_
              refine j_iremN C dL_print_84 (by omega) (by decide) (by decide) ?_
              refine j_callSH C (x_pnt h (by omega) (by omega)) dL_print_85 gL_print_L_painterOf rfl ks_L_painterOf rfl rfl (Nat.le_of_ble_eq_true rfl) ⟨by decide, by decide⟩ ⟨Nat.zero_le _, Nat.zero_le _⟩ (k_I ?_)
              refine j_i2l C dL_print_88 ?_
              refine j_ladd C dL_print_89 ?_
              refine j_lstore_n C dL_print_90 (by decide) ?_
              refine j_iincN C dL_print_91 rfl (by decide) ?_
              refine j_goto C dL_print_94 (tgt := 65) (by decide) ?_
              exact ih65 (by omega)
          exact L65 0 (by omega)
        · refine j_ldc2 C dL_print_39 cst_L_print_144 ?_
          refine j_lload_n C dL_print_42 rfl ?_
          refine j_lmul C dL_print_43 ?_
          refine j_aload_n C dL_print_44 rfl ?_
          refine j_iload_n C dL_print_45 rfl ?_
          refine j_iconst C dL_print_46 (v := nI 4) (by decide) ?_
          refine j_idivN C dL_print_47 (by omega) (by decide) (by decide) ?_
          refine j_iload_n C dL_print_48 rfl ?_
          refine j_iconst C dL_print_49 (v := nI 4) (by decide) ?_
          refine j_iremN C dL_print_50 (by omega) (by decide) (by decide) ?_
          refine j_callSH C (x_pot h (by omega) (by omega)) dL_print_51 gL_print_L_potOf rfl ks_L_potOf rfl rfl (Nat.le_of_ble_eq_true rfl) ⟨by decide, by decide⟩ ⟨Nat.zero_le _, Nat.zero_le _⟩ (k_I ?_)
          refine j_i2l C dL_print_54 ?_
          refine j_ladd C dL_print_55 ?_
          refine j_lstore_n C dL_print_56 (by decide) ?_
          refine j_iincN C dL_print_57 rfl (by decide) ?_
          refine j_goto C dL_print_60 (tgt := 33) (by decide) ?_
          exact ih33 (by omega)
      exact L33 0 (by omega)
    · refine j_ldc2 C dL_print_12 cst_L_print_144 ?_
      refine j_lload_n C dL_print_15 rfl ?_
      refine j_lmul C dL_print_16 ?_
      refine j_aload_n C dL_print_17 rfl ?_
      refine j_iload_n C dL_print_18 rfl ?_
      refine j_callSH C (x_cnt h cq9) dL_print_19 gL_print_L_count rfl ks_L_count rfl rfl (Nat.le_of_ble_eq_true rfl) ⟨by decide, by decide⟩ ⟨Nat.zero_le _, Nat.zero_le _⟩ (k_I ?_)
      refine j_i2l C dL_print_22 ?_
      refine j_ladd C dL_print_23 ?_
      refine j_lstore_n C dL_print_24 (by decide) ?_
      refine j_iincN C dL_print_25 rfl (by decide) ?_
      refine j_goto C dL_print_28 (tgt := 6) (by decide) ?_
      exact ih6 (by omega)
  exact L6 0 (by omega)
