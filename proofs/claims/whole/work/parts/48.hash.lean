set_option maxRecDepth 20000 in
theorem cst_X5_hashed_290 : Cond.constantLong RX5 290 (31) ∈ wsX5_hashed := by decide +kernel
set_option maxRecDepth 20000 in
theorem kd_X5_potOf : yX5_potOf.cls = RX5 ∧ yX5_potOf.cls ≠ "java/lang/invoke/MethodHandle" ∧ yX5_potOf.cls ≠ "java/lang/invoke/VarHandle" ∧ (parseMethodDescriptor yX5_potOf.desc).map (fun d => d.parameters.length) = some 2 := by decide +kernel
set_option maxRecDepth 20000 in
theorem ks_X5_hashed : yX5_hashed.cls ≠ "java/lang/invoke/MethodHandle" ∧ yX5_hashed.cls ≠ "java/lang/invoke/VarHandle" ∧ (parseMethodDescriptor yX5_hashed.desc).map (fun d => d.parameters.length) = some 2 := by decide +kernel
set_option maxRecDepth 20000 in
theorem in_X5_hashOfCharts_X5 : ∀ w ∈ wsX50, w ∈ wsX5_hashOfCharts := by decide +kernel
set_option maxRecDepth 20000 in
theorem fl_X5_hashOfCharts_12 : Cond.fieldLink RX5 12 "PotLabels" "bureau" "LPotLabels$Bureau;" ∈ wsX5_hashOfCharts := by decide +kernel
set_option maxRecDepth 20000 in
theorem in_X5_hashOfCharts_X0 : ∀ w ∈ wsX00, w ∈ wsX5_hashOfCharts := by decide +kernel
set_option maxRecDepth 20000 in
theorem kd_X5_chartOf : yX5_chartOf.cls = RX5 ∧ yX5_chartOf.cls ≠ "java/lang/invoke/MethodHandle" ∧ yX5_chartOf.cls ≠ "java/lang/invoke/VarHandle" ∧ (parseMethodDescriptor yX5_chartOf.desc).map (fun d => d.parameters.length) = some 2 := by decide +kernel
set_option maxRecDepth 20000 in
theorem in_X5_hashOfText_X5 : ∀ w ∈ wsX50, w ∈ wsX5_hashOfText := by decide +kernel
set_option maxRecDepth 20000 in
theorem fl_X5_hashOfText_26 : Cond.fieldLink RX5 26 "PotLabels" "text" "LPotLabels$Text;" ∈ wsX5_hashOfText := by decide +kernel
set_option maxRecDepth 20000 in
theorem in_X5_hashOfText_X4 : ∀ w ∈ wsX40, w ∈ wsX5_hashOfText := by decide +kernel
set_option maxRecDepth 20000 in
theorem nl_X5_287 : Cond.fieldLinkNest "PotLabels" 287 "PotLabels$Text" "codes" "[I" "PotLabels" ∈ nestF := by decide +kernel
/-! the digests: numbers are mixed in one after another -/
def hx (h x : Int64) : Int64 := 31 * h + x
def hN (F : Nat → Int64) (h : Int64) : Nat → Int64
  | 0 => h
  | k + 1 => hx (hN F h k) (F k)
theorem hN_s {F : Nat → Int64} {h x : Int64} {k : Nat} (e : F k = x) : hx (hN F h k) x = hN F h (k + 1) := by rw [← e]; rfl
def fPo (σ : Sg) : Nat → Int64 := fun k => (ofP σ (k / 5) (k % 5)).toInt64
def fCh (σ : Sg) : Nat → Int64 := fun k => (ofC σ (k / 3) (k % 3)).toInt64
def fTx (f : Nat → Nat) : Nat → Int64 := fun k => (nI (f k)).toInt64
theorem fPo_at {σ : Sg} {i k : Nat} (h : k < 5) : fPo σ (5 * i + k) = (ofP σ i k).toInt64 := by unfold fPo; rw [show (5 * i + k) / 5 = i by omega, show (5 * i + k) % 5 = k by omega]
theorem fCh_at {σ : Sg} {i k : Nat} (h : k < 3) : fCh σ (3 * i + k) = (ofC σ i k).toInt64 := by unfold fCh; rw [show (3 * i + k) / 3 = i by omega, show (3 * i + k) % 3 = k by omega]

set_option maxHeartbeats 4000000 in
set_option maxRecDepth 100000 in
theorem ct_hashed {l : Launch} {G : GG} {M : MM} {h x : Int64} : Ct l G yX5_hashed wsX5_hashed 1 ([.long (h), .long (x)] : List Value) M (rL (hx h x) M) := by
  refine Ct.of (cc := cX5_hashed) (maxL := 4) (ret := (some .long)) (lv := [(0, .long (h)), (2, .long (x))]) (by decide) rfl rfl (Nat.le_of_ble_eq_true rfl) ?_
  intro pg ev sg mm bl mt cd AZ C hret
  refine j_ldc2 C dX5_hashed_0 cst_X5_hashed_290 ?_
  refine j_lload_n C dX5_hashed_3 rfl ?_
  refine j_lmul C dX5_hashed_4 ?_
  refine j_lload_n C dX5_hashed_5 rfl ?_
  refine j_ladd C dX5_hashed_6 ?_
  exact j_lreturn C hret dX5_hashed_7 ⟨rfl, rfl⟩

set_option maxHeartbeats 4000000 in
set_option maxRecDepth 100000 in
theorem ct_hashOfPots {l : Launch} {G : GG} {M : MM} {S : SS} (hX : Xc M S) (hO : OkS S) {h : Int64} : Ct l G yX5_hashOfPots wsX5_hashOfPots 7 ([.ref (G.2.2 72), .long (h)] : List Value) M (rL (hN (fPo S.1) h (5 * 8)) M) := by
  have hB := hX.1
  have hW := hO.1
  refine Ct.of (cc := cX5_hashOfPots) (maxL := 7) (ret := (some .long)) (lv := [(0, .ref (G.2.2 72)), (1, .long (h))]) (by decide) rfl rfl (Nat.le_of_ble_eq_true rfl) ?_
  intro pg ev sg mm bl mt cd AZ C hret
  refine j_lload_n C dX5_hashOfPots_0 rfl ?_
  refine j_lstore_n C dX5_hashOfPots_1 (by decide) ?_
  refine j_iconst C dX5_hashOfPots_2 (v := nI 0) (by decide) ?_
  refine j_istore C dX5_hashOfPots_3 (by decide) ?_
  have L5 : ∀ i, i ≤ 8 → J G pg l ev (rmD 7) sg mm ([.ref (G.2.2 72), .long (h)] : List Value).toArray bl mt cd AZ 7 (MQ bl (QQ G (rL (hN (fPo S.1) h (5 * 8)) M) AZ) ([.ref (G.2.2 72), .long (h)] : List Value).toArray sg 0 0 AZ) 0 0 5 [(0, .ref (G.2.2 72)), (1, .long h), (3, .long (hN (fPo S.1) h (5 * i))), (5, .int (nI i))] [] (M) := by
    refine dnto ?_
    intro i hi5 ih5
    refine j_iload C dX5_hashOfPots_5 rfl ?_
    refine j_bipush C dX5_hashOfPots_7 (v := nI 8) (by decide) ?_
    refine j_icmp_geN C dX5_hashOfPots_9 (tgt := 47) (by decide) (by omega) (by omega) (fun cq9 => ?_) (fun cq9 => ?_)
    · have e9 : i = 8 := by omega
      subst e9
      refine j_lload_n C dX5_hashOfPots_47 rfl ?_
      exact j_lreturn C hret dX5_hashOfPots_48 ⟨rfl, rfl⟩
    · refine j_iconst C dX5_hashOfPots_12 (v := nI 0) (by decide) ?_
      refine j_istore C dX5_hashOfPots_13 (by decide) ?_
      have L15 : ∀ k, k ≤ 5 → J G pg l ev (rmD 7) sg mm ([.ref (G.2.2 72), .long (h)] : List Value).toArray bl mt cd AZ 7 (MQ bl (QQ G (rL (hN (fPo S.1) h (5 * 8)) M) AZ) ([.ref (G.2.2 72), .long (h)] : List Value).toArray sg 0 0 AZ) 0 0 15 [(0, .ref (G.2.2 72)), (1, .long h), (3, .long (hN (fPo S.1) h (5 * i + k))), (5, .int (nI i)), (6, .int (nI k))] [] (M) := by
        refine dnto ?_
        intro k hk15 ih15
        refine j_iload C dX5_hashOfPots_15 rfl ?_
        refine j_iconst C dX5_hashOfPots_17 (v := nI 4) (by decide) ?_
        refine j_icmp_gtN C dX5_hashOfPots_18 (tgt := 41) (by decide) (by omega) (by omega) (fun cq18 => ?_) (fun cq18 => ?_)
        · refine j_iincN C dX5_hashOfPots_41 rfl (by decide) ?_
          refine j_goto C dX5_hashOfPots_44 (tgt := 5) (by decide) ?_
          have e5 : k = 5 := by omega
          subst e5
          have z5 := ih5 (by omega)
          rw [show 5 * (i + 1) = 5 * i + 5 by omega] at z5
          exact j_pick [0, 1, 2, 3] z5
        · refine j_lload_n C dX5_hashOfPots_21 rfl ?_
          refine j_aload_n C dX5_hashOfPots_22 rfl ?_
          refine j_iload C dX5_hashOfPots_23 rfl ?_
          refine j_iload C dX5_hashOfPots_25 rfl ?_
          refine j_callV C (ct_potOf hX hO (by omega) (by omega)) dX5_hashOfPots_27 rfl (by decide) (T := TX5) rfl gX5_hashOfPots_X5_potOf rfl kd_X5_potOf rfl rfl (Nat.le_of_ble_eq_true rfl) ⟨by decide, by decide⟩ ⟨Nat.zero_le _, Nat.zero_le _⟩ (k_I ?_)
          refine j_i2l C dX5_hashOfPots_30 ?_
          refine j_callS C ct_hashed dX5_hashOfPots_31 gX5_hashOfPots_X5_hashed rfl ks_X5_hashed rfl rfl (Nat.le_of_ble_eq_true rfl) ⟨by decide, by decide⟩ ⟨Nat.zero_le _, Nat.zero_le _⟩ (k_L ?_)
          refine j_topl C (_) (hN_s (fPo_at (by omega))) ?_
          refine j_lstore_n C dX5_hashOfPots_34 (by decide) ?_
          refine j_iincN C dX5_hashOfPots_35 rfl (by decide) ?_
          refine j_goto C dX5_hashOfPots_38 (tgt := 15) (by decide) ?_
          exact ih15 (by omega)
      exact L15 0 (Nat.zero_le _)
  exact L5 0 (Nat.zero_le _)

set_option maxHeartbeats 4000000 in
set_option maxRecDepth 100000 in
theorem ct_hashOfCharts {l : Launch} {G : GG} {M : MM} {S : SS} (hX : Xc M S) (hO : OkS S) {h : Int64} : Ct l G yX5_hashOfCharts wsX5_hashOfCharts 7 ([.ref (G.2.2 72), .long (h)] : List Value) M (rL (hN (fCh S.1) h (3 * S.1 44)) M) := by
  have hB := hX.1
  have hW := hO.1
  have h44 := hW.2.2.1
  refine Ct.of (cc := cX5_hashOfCharts) (maxL := 7) (ret := (some .long)) (lv := [(0, .ref (G.2.2 72)), (1, .long (h))]) (by decide) rfl rfl (Nat.le_of_ble_eq_true rfl) ?_
  intro pg ev sg mm bl mt cd AZ C hret
  refine j_lload_n C dX5_hashOfCharts_0 rfl ?_
  refine j_lstore_n C dX5_hashOfCharts_1 (by decide) ?_
  refine j_iconst C dX5_hashOfCharts_2 (v := nI 0) (by decide) ?_
  refine j_istore C dX5_hashOfCharts_3 (by decide) ?_
  have L5 : ∀ i, i ≤ S.1 44 → J G pg l ev (rmD 7) sg mm ([.ref (G.2.2 72), .long (h)] : List Value).toArray bl mt cd AZ 7 (MQ bl (QQ G (rL (hN (fCh S.1) h (3 * S.1 44)) M) AZ) ([.ref (G.2.2 72), .long (h)] : List Value).toArray sg 0 0 AZ) 0 0 5 [(0, .ref (G.2.2 72)), (1, .long h), (3, .long (hN (fCh S.1) h (3 * i))), (5, .int (nI i))] [] (M) := by
    refine dnto ?_
    intro i hi5 ih5
    refine j_iload C dX5_hashOfCharts_5 rfl ?_
    refine j_aload_n C dX5_hashOfCharts_7 rfl ?_
    refine j_getf C dX5_hashOfCharts_8 rfl (by decide) (T := TX5) rfl in_X5_hashOfCharts_X5 (k := 0) (by decide) fl_X5_hashOfCharts_12 rfl rfl ?_
    refine j_getfN C dX5_hashOfCharts_11 (cell_B (b := 0) (by decide)) (by decide) (T := TX0) rfl in_X5_hashOfCharts_X0 (k := 7) (by decide) nl_X5_198 rfl rfl ?_
    refine j_top C (_) hB.2.2.2.2.2.2.2.1 ?_
    refine j_icmp_geN C dX5_hashOfCharts_14 (tgt := 52) (by decide) (by omega) (by omega) (fun cq14 => ?_) (fun cq14 => ?_)
    · have e9 : i = S.1 44 := by omega
      subst e9
      refine j_lload_n C dX5_hashOfCharts_52 rfl ?_
      exact j_lreturn C hret dX5_hashOfCharts_53 ⟨rfl, rfl⟩
    · refine j_iconst C dX5_hashOfCharts_17 (v := nI 0) (by decide) ?_
      refine j_istore C dX5_hashOfCharts_18 (by decide) ?_
      have L20 : ∀ k, k ≤ 3 → J G pg l ev (rmD 7) sg mm ([.ref (G.2.2 72), .long (h)] : List Value).toArray bl mt cd AZ 7 (MQ bl (QQ G (rL (hN (fCh S.1) h (3 * S.1 44)) M) AZ) ([.ref (G.2.2 72), .long (h)] : List Value).toArray sg 0 0 AZ) 0 0 20 [(0, .ref (G.2.2 72)), (1, .long h), (3, .long (hN (fCh S.1) h (3 * i + k))), (5, .int (nI i)), (6, .int (nI k))] [] (M) := by
        refine dnto ?_
        intro k hk20 ih20
        refine j_iload C dX5_hashOfCharts_20 rfl ?_
        refine j_iconst C dX5_hashOfCharts_22 (v := nI 2) (by decide) ?_
        refine j_icmp_gtN C dX5_hashOfCharts_23 (tgt := 46) (by decide) (by omega) (by omega) (fun cq23 => ?_) (fun cq23 => ?_)
        · refine j_iincN C dX5_hashOfCharts_46 rfl (by decide) ?_
          refine j_goto C dX5_hashOfCharts_49 (tgt := 5) (by decide) ?_
          have e5 : k = 3 := by omega
          subst e5
          have z5 := ih5 (by omega)
          rw [show 3 * (i + 1) = 3 * i + 3 by omega] at z5
          exact j_pick [0, 1, 2, 3] z5
        · refine j_lload_n C dX5_hashOfCharts_26 rfl ?_
          refine j_aload_n C dX5_hashOfCharts_27 rfl ?_
          refine j_iload C dX5_hashOfCharts_28 rfl ?_
          refine j_iload C dX5_hashOfCharts_30 rfl ?_
          refine j_callV C (ct_chartOf hX hO (by omega) (by omega)) dX5_hashOfCharts_32 rfl (by decide) (T := TX5) rfl gX5_hashOfCharts_X5_chartOf rfl kd_X5_chartOf rfl rfl (Nat.le_of_ble_eq_true rfl) ⟨by decide, by decide⟩ ⟨Nat.zero_le _, Nat.zero_le _⟩ (k_I ?_)
          refine j_i2l C dX5_hashOfCharts_35 ?_
          refine j_callS C ct_hashed dX5_hashOfCharts_36 gX5_hashOfCharts_X5_hashed rfl ks_X5_hashed rfl rfl (Nat.le_of_ble_eq_true rfl) ⟨by decide, by decide⟩ ⟨Nat.zero_le _, Nat.zero_le _⟩ (k_L ?_)
          refine j_topl C (_) (hN_s (fCh_at (by omega))) ?_
          refine j_lstore_n C dX5_hashOfCharts_39 (by decide) ?_
          refine j_iincN C dX5_hashOfCharts_40 rfl (by decide) ?_
          refine j_goto C dX5_hashOfCharts_43 (tgt := 20) (by decide) ?_
          exact ih20 (by omega)
      exact L20 0 (Nat.zero_le _)
  exact L5 0 (Nat.zero_le _)

set_option maxHeartbeats 4000000 in
set_option maxRecDepth 100000 in
theorem ct_hashOfText {l : Launch} {G : GG} {M : MM} {S : SS} (hX : Xc M S) (hO : OkS S) {h : Int64} : Ct l G yX5_hashOfText wsX5_hashOfText 2 ([.ref (G.2.2 72), .long (h)] : List Value) M (rL (hN (fTx S.2.2.2.2.2.2) (hx h (nI S.2.2.2.2.2.1).toInt64) S.2.2.2.2.2.1) M) := by
  have hB := hX.1
  have hW := hO.1
  have hn60 := hX.2.2.2.2.1.1
  refine Ct.of (cc := cX5_hashOfText) (maxL := 6) (ret := (some .long)) (lv := [(0, .ref (G.2.2 72)), (1, .long (h))]) (by decide) rfl rfl (Nat.le_of_ble_eq_true rfl) ?_
  intro pg ev sg mm bl mt cd AZ C hret
  refine j_lload_n C dX5_hashOfText_0 rfl ?_
  refine j_aload_n C dX5_hashOfText_1 rfl ?_
  refine j_getf C dX5_hashOfText_2 rfl (by decide) (T := TX5) rfl in_X5_hashOfText_X5 (k := 2) (by decide) fl_X5_hashOfText_26 rfl rfl ?_
  refine j_getfN C dX5_hashOfText_5 rfl (by decide) (T := TX4) rfl in_X5_hashOfText_X4 (k := 1) (by decide) nl_X5_124 rfl rfl ?_
  refine j_top C (_) hX.2.2.2.2.1.2.1 ?_
  refine j_i2l C dX5_hashOfText_8 ?_
  refine j_callS C ct_hashed dX5_hashOfText_9 gX5_hashOfText_X5_hashed rfl ks_X5_hashed rfl rfl (Nat.le_of_ble_eq_true rfl) ⟨by decide, by decide⟩ ⟨Nat.zero_le _, Nat.zero_le _⟩ (k_L ?_)
  refine j_lstore_n C dX5_hashOfText_12 (by decide) ?_
  refine j_iconst C dX5_hashOfText_13 (v := nI 0) (by decide) ?_
  refine j_istore C dX5_hashOfText_14 (by decide) ?_
  have L16 : ∀ k, k ≤ S.2.2.2.2.2.1 → J G pg l ev (rmD 2) sg mm ([.ref (G.2.2 72), .long (h)] : List Value).toArray bl mt cd AZ 6 (MQ bl (QQ G (rL (hN (fTx S.2.2.2.2.2.2) (hx h (nI S.2.2.2.2.2.1).toInt64) S.2.2.2.2.2.1) M) AZ) ([.ref (G.2.2 72), .long (h)] : List Value).toArray sg 0 0 AZ) 0 0 16 [(0, .ref (G.2.2 72)), (1, .long h), (3, .long (hN (fTx S.2.2.2.2.2.2) (hx h (nI S.2.2.2.2.2.1).toInt64) k)), (5, .int (nI k))] [] (M) := by
    refine dnto ?_
    intro k hk16 ih16
    refine j_iload C dX5_hashOfText_16 rfl ?_
    refine j_aload_n C dX5_hashOfText_18 rfl ?_
    refine j_getf C dX5_hashOfText_19 rfl (by decide) (T := TX5) rfl in_X5_hashOfText_X5 (k := 2) (by decide) fl_X5_hashOfText_26 rfl rfl ?_
    refine j_getfN C dX5_hashOfText_22 rfl (by decide) (T := TX4) rfl in_X5_hashOfText_X4 (k := 1) (by decide) nl_X5_124 rfl rfl ?_
    refine j_top C (_) hX.2.2.2.2.1.2.1 ?_
    refine j_icmp_geN C dX5_hashOfText_25 (tgt := 57) (by decide) (by omega) (by omega) (fun cq25 => ?_) (fun cq25 => ?_)
    · have e9 : k = S.2.2.2.2.2.1 := by omega
      subst e9
      refine j_lload_n C dX5_hashOfText_57 rfl ?_
      exact j_lreturn C hret dX5_hashOfText_58 ⟨rfl, rfl⟩
    · refine j_iload C dX5_hashOfText_28 rfl ?_
      refine j_bipush C dX5_hashOfText_30 (v := nI 60) (by decide) ?_
      refine j_icmp_geN C dX5_hashOfText_32 (tgt := 57) (by decide) (by omega) (by omega) (fun cq32 => absurd cq32 (by omega)) (fun cq32 => ?_)
      refine j_lload_n C dX5_hashOfText_35 rfl ?_
      refine j_aload_n C dX5_hashOfText_36 rfl ?_
      refine j_getf C dX5_hashOfText_37 rfl (by decide) (T := TX5) rfl in_X5_hashOfText_X5 (k := 2) (by decide) fl_X5_hashOfText_26 rfl rfl ?_
      refine j_getfN C dX5_hashOfText_40 rfl (by decide) (T := TX4) rfl in_X5_hashOfText_X4 (k := 0) (by decide) nl_X5_287 rfl rfl ?_
      refine j_iload C dX5_hashOfText_43 rfl ?_
      refine j_ialdN C dX5_hashOfText_45 (show ilen 78 = some 60 from rfl) (by omega) (by decide) ?_
      refine j_top C _ (hX.2.2.2.2.1.2.2.1 _ (by omega)) ?_
      refine j_i2l C dX5_hashOfText_46 ?_
      refine j_callS C ct_hashed dX5_hashOfText_47 gX5_hashOfText_X5_hashed rfl ks_X5_hashed rfl rfl (Nat.le_of_ble_eq_true rfl) ⟨by decide, by decide⟩ ⟨Nat.zero_le _, Nat.zero_le _⟩ (k_L ?_)
      refine j_topl C (_) (hN_s rfl) ?_
      refine j_lstore_n C dX5_hashOfText_50 (by decide) ?_
      refine j_iincN C dX5_hashOfText_51 rfl (by decide) ?_
      refine j_goto C dX5_hashOfText_54 (tgt := 16) (by decide) ?_
      exact ih16 (by omega)
  exact L16 0 (Nat.zero_le _)
