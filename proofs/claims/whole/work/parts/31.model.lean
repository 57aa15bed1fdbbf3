set_option maxRecDepth 20000 in
theorem in_X6_goes_X6 : ∀ w ∈ wsX60, w ∈ wsX6_goes := by decide +kernel
set_option maxRecDepth 20000 in
theorem fl_X6_goes_31 : Cond.fieldLink RX6 31 "PotLabelsModel" "thrown" "I" ∈ wsX6_goes := by decide +kernel
set_option maxRecDepth 20000 in
theorem in_X6_thrown_X6 : ∀ w ∈ wsX60, w ∈ wsX6_thrown := by decide +kernel
set_option maxRecDepth 20000 in
theorem fl_X6_thrown_31 : Cond.fieldLink RX6 31 "PotLabelsModel" "thrown" "I" ∈ wsX6_thrown := by decide +kernel
set_option maxRecDepth 20000 in
theorem ks_X6_in : yX6_in.cls ≠ "java/lang/invoke/MethodHandle" ∧ yX6_in.cls ≠ "java/lang/invoke/VarHandle" ∧ (parseMethodDescriptor yX6_in.desc).map (fun d => d.parameters.length) = some 3 := by decide +kernel
set_option maxRecDepth 20000 in
theorem ks_X6_part : yX6_part.cls ≠ "java/lang/invoke/MethodHandle" ∧ yX6_part.cls ≠ "java/lang/invoke/VarHandle" ∧ (parseMethodDescriptor yX6_part.desc).map (fun d => d.parameters.length) = some 5 := by decide +kernel
set_option maxRecDepth 20000 in
theorem in_X6_distance_X6 : ∀ w ∈ wsX60, w ∈ wsX6_distance := by decide +kernel
set_option maxRecDepth 20000 in
theorem fl_X6_distance_7 : Cond.fieldLink RX6 7 "PotLabelsModel" "s" "[I" ∈ wsX6_distance := by decide +kernel
set_option maxRecDepth 20000 in
theorem ks_X6_size : yX6_size.cls ≠ "java/lang/invoke/MethodHandle" ∧ yX6_size.cls ≠ "java/lang/invoke/VarHandle" ∧ (parseMethodDescriptor yX6_size.desc).map (fun d => d.parameters.length) = some 1 := by decide +kernel
set_option maxRecDepth 20000 in
theorem ks_X6_at : yX6_at.cls ≠ "java/lang/invoke/MethodHandle" ∧ yX6_at.cls ≠ "java/lang/invoke/VarHandle" ∧ (parseMethodDescriptor yX6_at.desc).map (fun d => d.parameters.length) = some 1 := by decide +kernel
set_option maxRecDepth 20000 in
theorem in_X6_tells_X6 : ∀ w ∈ wsX60, w ∈ wsX6_tells := by decide +kernel
set_option maxRecDepth 20000 in
theorem fl_X6_tells_7 : Cond.fieldLink RX6 7 "PotLabelsModel" "s" "[I" ∈ wsX6_tells := by decide +kernel
set_option maxRecDepth 20000 in
theorem kd_X6_distance : yX6_distance.cls = RX6 ∧ yX6_distance.cls ≠ "java/lang/invoke/MethodHandle" ∧ yX6_distance.cls ≠ "java/lang/invoke/VarHandle" ∧ (parseMethodDescriptor yX6_distance.desc).map (fun d => d.parameters.length) = some 5 := by decide +kernel
set_option maxRecDepth 20000 in
theorem in_X6_areApartWith_X6 : ∀ w ∈ wsX60, w ∈ wsX6_areApartWith := by decide +kernel
set_option maxRecDepth 20000 in
theorem fl_X6_areApartWith_7 : Cond.fieldLink RX6 7 "PotLabelsModel" "s" "[I" ∈ wsX6_areApartWith := by decide +kernel
set_option maxRecDepth 20000 in
theorem kd_X6_tells : yX6_tells.cls = RX6 ∧ yX6_tells.cls ≠ "java/lang/invoke/MethodHandle" ∧ yX6_tells.cls ≠ "java/lang/invoke/VarHandle" ∧ (parseMethodDescriptor yX6_tells.desc).map (fun d => d.parameters.length) = some 6 := by decide +kernel
set_option maxRecDepth 20000 in
theorem in_X6_areApart_X6 : ∀ w ∈ wsX60, w ∈ wsX6_areApart := by decide +kernel
set_option maxRecDepth 20000 in
theorem fl_X6_areApart_7 : Cond.fieldLink RX6 7 "PotLabelsModel" "s" "[I" ∈ wsX6_areApart := by decide +kernel
set_option maxRecDepth 20000 in
theorem kd_X6_areApartWith : yX6_areApartWith.cls = RX6 ∧ yX6_areApartWith.cls ≠ "java/lang/invoke/MethodHandle" ∧ yX6_areApartWith.cls ≠ "java/lang/invoke/VarHandle" ∧ (parseMethodDescriptor yX6_areApartWith.desc).map (fun d => d.parameters.length) = some 4 := by decide +kernel
set_option maxRecDepth 20000 in
theorem in_X6_pairs_X6 : ∀ w ∈ wsX60, w ∈ wsX6_pairs := by decide +kernel
set_option maxRecDepth 20000 in
theorem fl_X6_pairs_7 : Cond.fieldLink RX6 7 "PotLabelsModel" "s" "[I" ∈ wsX6_pairs := by decide +kernel
set_option maxRecDepth 20000 in
theorem kd_X6_pairsWith : yX6_pairsWith.cls = RX6 ∧ yX6_pairsWith.cls ≠ "java/lang/invoke/MethodHandle" ∧ yX6_pairsWith.cls ≠ "java/lang/invoke/VarHandle" ∧ (parseMethodDescriptor yX6_pairsWith.desc).map (fun d => d.parameters.length) = some 2 := by decide +kernel
theorem in_f1 {v lo hi : Int32} (h : v < lo) : nI 0 = bI (inI v lo hi) := by rw [inI_f1 (Int32.not_le.mpr h)]; rfl
theorem in_f2 {v lo hi : Int32} (h : hi < v) : nI 0 = bI (inI v lo hi) := by rw [inI_f2 (Int32.not_le.mpr h)]; rfl

set_option maxHeartbeats 4000000 in
set_option maxRecDepth 100000 in
theorem cm_in {l : Launch} {G : GG} {M : MM} {v lo hi : Int32} : Ct l G yX6_in wsX6_in 1 ([.int (v), .int (lo), .int (hi)] : List Value) M (rI (bI (inI v lo hi)) M) := by
  refine Ct.of (cc := cX6_in) (maxL := 3) (ret := (some .boolean)) (lv := [(0, .int (v)), (1, .int (lo)), (2, .int (hi))]) (by decide) rfl rfl (Nat.le_of_ble_eq_true rfl) ?_
  intro pg ev sg mm bl mt cd AZ C hret
  refine j_iload_n C dX6_in_0 rfl ?_
  refine j_iload_n C dX6_in_1 rfl ?_
  refine j_icmp_lt C dX6_in_2 (tgt := 14) (by decide) (fun cq2 => ?_) (fun cq2 => ?_)
  · refine j_iconst C dX6_in_14 (v := nI 0) (by decide) ?_
    refine j_top C (bI (inI v lo hi)) (by first | exact in_f1 cq2 | exact in_f2 cq7) ?_
    exact j_zreturn C hret dX6_in_15 ⟨rfl, rfl⟩
  · refine j_iload_n C dX6_in_5 rfl ?_
    refine j_iload_n C dX6_in_6 rfl ?_
    refine j_icmp_gt C dX6_in_7 (tgt := 14) (by decide) (fun cq7 => ?_) (fun cq7 => ?_)
    · refine j_iconst C dX6_in_14 (v := nI 0) (by decide) ?_
      refine j_top C (bI (inI v lo hi)) (by first | exact in_f1 cq2 | exact in_f2 cq7) ?_
      exact j_zreturn C hret dX6_in_15 ⟨rfl, rfl⟩
    · refine j_iconst C dX6_in_10 (v := nI 1) (by decide) ?_
      refine j_top C (bI (inI v lo hi)) (by rw [inI_t (Int32.not_lt.mp cq2) (Int32.not_lt.mp cq7)]; rfl) ?_
      refine j_goto C dX6_in_11 (tgt := 15) (by decide) ?_
      exact j_zreturn C hret dX6_in_15 ⟨rfl, rfl⟩

theorem thr_t {a b : Bool} (h : thr a b = 0) : nI 1 = bI (a && b) := by
  cases a <;> cases b <;> first | rfl | exact absurd h (by decide)
theorem thr_f {a b : Bool} (h : ¬ thr a b = 0) : nI 0 = bI (a && b) := by
  cases a <;> cases b <;> first | rfl | exact absurd rfl h

set_option maxHeartbeats 4000000 in
set_option maxRecDepth 100000 in
theorem cm_goes {l : Launch} {G : GG} {M : MM} {a b : Bool} : Ct l G yX6_goes wsX6_goes 1 ([.ref (G.2.2 84), .int (bI a), .int (bI b)] : List Value) M (rI (bI (a && b)) (setV M 84 5 (nI (thr a b)))) := by
  refine Ct.of (cc := cX6_goes) (maxL := 3) (ret := (some .boolean)) (lv := [(0, .ref (G.2.2 84)), (1, .int (bI a)), (2, .int (bI b))]) (by decide) rfl rfl (Nat.le_of_ble_eq_true rfl) ?_
  intro pg ev sg mm bl mt cd AZ C hret
  refine j_aload_n C dX6_goes_0 rfl ?_
  refine j_iload_n C dX6_goes_1 rfl ?_
  refine j_if_neB C dX6_goes_2 (tgt := 9) (by decide) (fun cq2 => ?_) (fun cq2 => ?_)
  · refine j_iload_n C dX6_goes_9 rfl ?_
    refine j_if_neB C dX6_goes_10 (tgt := 17) (by decide) (fun cq10 => ?_) (fun cq10 => ?_)
    · refine j_iconst C dX6_goes_17 (v := nI 0) (by decide) ?_
      refine j_top C (nI (thr a b)) (show nI 0 = nI (thr a b) from by rw [cq2, cq10]; rfl) ?_
      refine j_putf C dX6_goes_18 rfl (by decide) (T := TX6) rfl in_X6_goes_X6 tyX6 tyX6_ok nmX6 (k := 5) (by decide) fl_X6_goes_31 rfl rfl (by decide +kernel) (Nat.le_of_ble_eq_true rfl) rfl ?_
      refine j_aload_n C dX6_goes_21 rfl ?_
      refine j_getf C dX6_goes_22 rfl (by decide) (T := TX6) rfl in_X6_goes_X6 (k := 5) (by decide) fl_X6_goes_31 rfl rfl ?_
      refine j_top C (_) setV_eq ?_
      refine j_if_neN C dX6_goes_25 (tgt := 32) (by decide) (by cases a <;> cases b <;> decide) (fun cq25 => ?_) (fun cq25 => ?_)
      · refine j_iconst C dX6_goes_32 (v := nI 0) (by decide) ?_
        refine j_top C (bI (a && b)) (thr_f cq25) ?_
        exact j_zreturn C hret dX6_goes_33 ⟨rfl, rfl⟩
      · refine j_iconst C dX6_goes_28 (v := nI 1) (by decide) ?_
        refine j_top C (bI (a && b)) (thr_t cq25) ?_
        refine j_goto C dX6_goes_29 (tgt := 33) (by decide) ?_
        exact j_zreturn C hret dX6_goes_33 ⟨rfl, rfl⟩
    · refine j_iconst C dX6_goes_13 (v := nI 2) (by decide) ?_
      refine j_top C (nI (thr a b)) (show nI 2 = nI (thr a b) from by rw [cq2, cq10]; rfl) ?_
      refine j_goto C dX6_goes_14 (tgt := 18) (by decide) ?_
      refine j_putf C dX6_goes_18 rfl (by decide) (T := TX6) rfl in_X6_goes_X6 tyX6 tyX6_ok nmX6 (k := 5) (by decide) fl_X6_goes_31 rfl rfl (by decide +kernel) (Nat.le_of_ble_eq_true rfl) rfl ?_
      refine j_aload_n C dX6_goes_21 rfl ?_
      refine j_getf C dX6_goes_22 rfl (by decide) (T := TX6) rfl in_X6_goes_X6 (k := 5) (by decide) fl_X6_goes_31 rfl rfl ?_
      refine j_top C (_) setV_eq ?_
      refine j_if_neN C dX6_goes_25 (tgt := 32) (by decide) (by cases a <;> cases b <;> decide) (fun cq25 => ?_) (fun cq25 => ?_)
      · refine j_iconst C dX6_goes_32 (v := nI 0) (by decide) ?_
        refine j_top C (bI (a && b)) (thr_f cq25) ?_
        exact j_zreturn C hret dX6_goes_33 ⟨rfl, rfl⟩
      · refine j_iconst C dX6_goes_28 (v := nI 1) (by decide) ?_
        refine j_top C (bI (a && b)) (thr_t cq25) ?_
        refine j_goto C dX6_goes_29 (tgt := 33) (by decide) ?_
        exact j_zreturn C hret dX6_goes_33 ⟨rfl, rfl⟩
  · refine j_iconst C dX6_goes_5 (v := nI 1) (by decide) ?_
    refine j_top C (nI (thr a b)) (show nI 1 = nI (thr a b) from by rw [cq2]; rfl) ?_
    refine j_goto C dX6_goes_6 (tgt := 18) (by decide) ?_
    refine j_putf C dX6_goes_18 rfl (by decide) (T := TX6) rfl in_X6_goes_X6 tyX6 tyX6_ok nmX6 (k := 5) (by decide) fl_X6_goes_31 rfl rfl (by decide +kernel) (Nat.le_of_ble_eq_true rfl) rfl ?_
    refine j_aload_n C dX6_goes_21 rfl ?_
    refine j_getf C dX6_goes_22 rfl (by decide) (T := TX6) rfl in_X6_goes_X6 (k := 5) (by decide) fl_X6_goes_31 rfl rfl ?_
    refine j_top C (_) setV_eq ?_
    refine j_if_neN C dX6_goes_25 (tgt := 32) (by decide) (by cases a <;> cases b <;> decide) (fun cq25 => ?_) (fun cq25 => ?_)
    · refine j_iconst C dX6_goes_32 (v := nI 0) (by decide) ?_
      refine j_top C (bI (a && b)) (thr_f cq25) ?_
      exact j_zreturn C hret dX6_goes_33 ⟨rfl, rfl⟩
    · refine j_iconst C dX6_goes_28 (v := nI 1) (by decide) ?_
      refine j_top C (bI (a && b)) (thr_t cq25) ?_
      refine j_goto C dX6_goes_29 (tgt := 33) (by decide) ?_
      exact j_zreturn C hret dX6_goes_33 ⟨rfl, rfl⟩

set_option maxHeartbeats 4000000 in
set_option maxRecDepth 100000 in
theorem cm_thrown {l : Launch} {G : GG} {M : MM}  : Ct l G yX6_thrown wsX6_thrown 1 ([.ref (G.2.2 84)] : List Value) M (rI (M.2.1 84 5) M) := by
  refine Ct.of (cc := cX6_thrown) (maxL := 1) (ret := (some .int)) (lv := [(0, .ref (G.2.2 84))]) (by decide) rfl rfl (Nat.le_of_ble_eq_true rfl) ?_
  intro pg ev sg mm bl mt cd AZ C hret
  refine j_aload_n C dX6_thrown_0 rfl ?_
  refine j_getf C dX6_thrown_1 rfl (by decide) (T := TX6) rfl in_X6_thrown_X6 (k := 5) (by decide) fl_X6_thrown_31 rfl rfl ?_
  exact j_ireturn C hret dX6_thrown_4 ⟨rfl, rfl⟩

set_option maxHeartbeats 4000000 in
set_option maxRecDepth 100000 in
theorem cm_size {l : Launch} {G : GG} {M : MM} {a b : Nat} (ha : a < 2 ^ 30) (hb : b < 2 ^ 30) : Ct l G yX6_size wsX6_size 1 ([.int (nI a - nI b)] : List Value) M (rI (nI (ad a b)) M) := by
  refine Ct.of (cc := cX6_size) (maxL := 1) (ret := (some .int)) (lv := [(0, .int (nI a - nI b))]) (by decide) rfl rfl (Nat.le_of_ble_eq_true rfl) ?_
  intro pg ev sg mm bl mt cd AZ C hret
  refine j_iload_n C dX6_size_0 rfl ?_
  refine j_if_ge C dX6_size_1 (tgt := 9) (by decide) (fun cq1 => ?_) (fun cq1 => ?_)
  · refine j_iload_n C dX6_size_9 rfl ?_
    exact j_ireturn C hret dX6_size_10 (by first | exact ⟨congrArg (fun z => some (Value.int z)) (size_1 ha hb cq1), rfl⟩ | exact ⟨congrArg (fun z => some (Value.int z)) (size_2 ha hb cq1), rfl⟩)
  · refine j_iload_n C dX6_size_4 rfl ?_
    refine j_ineg C dX6_size_5 ?_
    refine j_goto C dX6_size_6 (tgt := 10) (by decide) ?_
    exact j_ireturn C hret dX6_size_10 (by first | exact ⟨congrArg (fun z => some (Value.int z)) (size_1 ha hb cq1), rfl⟩ | exact ⟨congrArg (fun z => some (Value.int z)) (size_2 ha hb cq1), rfl⟩)

set_option maxHeartbeats 4000000 in
set_option maxRecDepth 100000 in
theorem cm_isPot {l : Launch} {G : GG} {M : MM} {v : Int32} : Ct l G yX6_isPot wsX6_isPot 2 ([.int (v)] : List Value) M (rI (bI (inI v (nI 0) (nI 7))) M) := by
  refine Ct.of (cc := cX6_isPot) (maxL := 1) (ret := (some .boolean)) (lv := [(0, .int (v))]) (by decide) rfl rfl (Nat.le_of_ble_eq_true rfl) ?_
  intro pg ev sg mm bl mt cd AZ C hret
  refine j_iload_n C dX6_isPot_0 rfl ?_
  refine j_iconst C dX6_isPot_1 (v := nI 0) (by decide) ?_
  refine j_bipush C dX6_isPot_2 (v := nI 7) (by decide) ?_
  refine j_callS C cm_in dX6_isPot_4 gX6_isPot_X6_in rfl ks_X6_in rfl rfl (Nat.le_of_ble_eq_true rfl) ⟨by decide, by decide⟩ ⟨Nat.zero_le _, Nat.zero_le _⟩ (k_I ?_)
  exact j_zreturn C hret dX6_isPot_7 ⟨rfl, rfl⟩

set_option maxHeartbeats 4000000 in
set_option maxRecDepth 100000 in
theorem cm_isPainter {l : Launch} {G : GG} {M : MM} {v : Int32} : Ct l G yX6_isPainter wsX6_isPainter 2 ([.int (v)] : List Value) M (rI (bI (inI v (nI 0) (nI 3))) M) := by
  refine Ct.of (cc := cX6_isPainter) (maxL := 1) (ret := (some .boolean)) (lv := [(0, .int (v))]) (by decide) rfl rfl (Nat.le_of_ble_eq_true rfl) ?_
  intro pg ev sg mm bl mt cd AZ C hret
  refine j_iload_n C dX6_isPainter_0 rfl ?_
  refine j_iconst C dX6_isPainter_1 (v := nI 0) (by decide) ?_
  refine j_iconst C dX6_isPainter_2 (v := nI 3) (by decide) ?_
  refine j_callS C cm_in dX6_isPainter_3 gX6_isPainter_X6_in rfl ks_X6_in rfl rfl (Nat.le_of_ble_eq_true rfl) ⟨by decide, by decide⟩ ⟨Nat.zero_le _, Nat.zero_le _⟩ (k_I ?_)
  exact j_zreturn C hret dX6_isPainter_6 ⟨rfl, rfl⟩

set_option maxHeartbeats 4000000 in
set_option maxRecDepth 100000 in
theorem cm_at {l : Launch} {G : GG} {M : MM} {p : Nat} : Ct l G yX6_at wsX6_at 1 ([.int (nI p)] : List Value) M (rI (nI (32 + 3 * p)) M) := by
  refine Ct.of (cc := cX6_at) (maxL := 1) (ret := (some .int)) (lv := [(0, .int (nI p))]) (by decide) rfl rfl (Nat.le_of_ble_eq_true rfl) ?_
  intro pg ev sg mm bl mt cd AZ C hret
  refine j_bipush C dX6_at_0 (v := nI 32) (by decide) ?_
  refine j_iconst C dX6_at_2 (v := nI 3) (by decide) ?_
  refine j_iload_n C dX6_at_3 rfl ?_
  refine j_imulN C dX6_at_4 ?_
  refine j_iaddN C dX6_at_5 ?_
  exact j_ireturn C hret dX6_at_6 ⟨rfl, rfl⟩

set_option maxHeartbeats 4000000 in
set_option maxRecDepth 100000 in
theorem cm_part_0_0 {l : Launch} {G : GG} {M : MM} {r g b : Nat} (hr : r ≤ 9) (hg : g ≤ 9) (hb : b ≤ 9) : Ct l G yX6_part wsX6_part 1 ([.int (nI 0), .int (nI 0), .int (nI r), .int (nI g), .int (nI b)] : List Value) M (rI (nI (sP3 0 0 r g b)) M) := by
  refine Ct.of (cc := cX6_part) (maxL := 6) (ret := (some .int)) (lv := [(0, .int (nI 0)), (1, .int (nI 0)), (2, .int (nI r)), (3, .int (nI g)), (4, .int (nI b))]) (by decide) rfl rfl (Nat.le_of_ble_eq_true rfl) ?_
  intro pg ev sg mm bl mt cd AZ C hret
  refine j_iload_n C dX6_part_0 rfl ?_
  refine j_if_neN C dX6_part_1 (tgt := 8) (by decide) (by omega) (fun cq1 => absurd cq1 (by decide)) (fun cq1 => ?_)
  refine j_iload_n C dX6_part_4 rfl ?_
  refine j_goto C dX6_part_5 (tgt := 19) (by decide) ?_
  refine j_istore C dX6_part_19 (by decide) ?_
  refine j_iload_n C dX6_part_21 rfl ?_
  refine j_tableOut C dX6_part_22 (tgt := 85) (by decide) (by decide) ?_
  refine j_iload C dX6_part_85 rfl ?_
  exact j_ireturn C hret dX6_part_87 ⟨rfl, rfl⟩

set_option maxHeartbeats 4000000 in
set_option maxRecDepth 100000 in
theorem cm_part_0_1 {l : Launch} {G : GG} {M : MM} {r g b : Nat} (hr : r ≤ 9) (hg : g ≤ 9) (hb : b ≤ 9) : Ct l G yX6_part wsX6_part 1 ([.int (nI 0), .int (nI 1), .int (nI r), .int (nI g), .int (nI b)] : List Value) M (rI (nI (sP3 0 1 r g b)) M) := by
  refine Ct.of (cc := cX6_part) (maxL := 6) (ret := (some .int)) (lv := [(0, .int (nI 0)), (1, .int (nI 1)), (2, .int (nI r)), (3, .int (nI g)), (4, .int (nI b))]) (by decide) rfl rfl (Nat.le_of_ble_eq_true rfl) ?_
  intro pg ev sg mm bl mt cd AZ C hret
  refine j_iload_n C dX6_part_0 rfl ?_
  refine j_if_neN C dX6_part_1 (tgt := 8) (by decide) (by omega) (fun cq1 => ?_) (fun cq1 => absurd cq1 (by decide))
  refine j_iload_n C dX6_part_8 rfl ?_
  refine j_iconst C dX6_part_9 (v := nI 1) (by decide) ?_
  refine j_icmp_neN C dX6_part_10 (tgt := 17) (by decide) (by omega) (by omega) (fun cq10 => absurd cq10 (by decide)) (fun cq10 => ?_)
  refine j_iload_n C dX6_part_13 rfl ?_
  refine j_goto C dX6_part_14 (tgt := 19) (by decide) ?_
  refine j_istore C dX6_part_19 (by decide) ?_
  refine j_iload_n C dX6_part_21 rfl ?_
  refine j_tableOut C dX6_part_22 (tgt := 85) (by decide) (by decide) ?_
  refine j_iload C dX6_part_85 rfl ?_
  exact j_ireturn C hret dX6_part_87 ⟨rfl, rfl⟩

set_option maxHeartbeats 4000000 in
set_option maxRecDepth 100000 in
theorem cm_part_0_2 {l : Launch} {G : GG} {M : MM} {r g b : Nat} (hr : r ≤ 9) (hg : g ≤ 9) (hb : b ≤ 9) : Ct l G yX6_part wsX6_part 1 ([.int (nI 0), .int (nI 2), .int (nI r), .int (nI g), .int (nI b)] : List Value) M (rI (nI (sP3 0 2 r g b)) M) := by
  refine Ct.of (cc := cX6_part) (maxL := 6) (ret := (some .int)) (lv := [(0, .int (nI 0)), (1, .int (nI 2)), (2, .int (nI r)), (3, .int (nI g)), (4, .int (nI b))]) (by decide) rfl rfl (Nat.le_of_ble_eq_true rfl) ?_
  intro pg ev sg mm bl mt cd AZ C hret
  refine j_iload_n C dX6_part_0 rfl ?_
  refine j_if_neN C dX6_part_1 (tgt := 8) (by decide) (by omega) (fun cq1 => ?_) (fun cq1 => absurd cq1 (by decide))
  refine j_iload_n C dX6_part_8 rfl ?_
  refine j_iconst C dX6_part_9 (v := nI 1) (by decide) ?_
  refine j_icmp_neN C dX6_part_10 (tgt := 17) (by decide) (by omega) (by omega) (fun cq10 => ?_) (fun cq10 => absurd cq10 (by decide))
  refine j_iload C dX6_part_17 rfl ?_
  refine j_istore C dX6_part_19 (by decide) ?_
  refine j_iload_n C dX6_part_21 rfl ?_
  refine j_tableOut C dX6_part_22 (tgt := 85) (by decide) (by decide) ?_
  refine j_iload C dX6_part_85 rfl ?_
  exact j_ireturn C hret dX6_part_87 ⟨rfl, rfl⟩

set_option maxHeartbeats 4000000 in
set_option maxRecDepth 100000 in
theorem cm_part_1_0 {l : Launch} {G : GG} {M : MM} {r g b : Nat} (hr : r ≤ 9) (hg : g ≤ 9) (hb : b ≤ 9) : Ct l G yX6_part wsX6_part 1 ([.int (nI 1), .int (nI 0), .int (nI r), .int (nI g), .int (nI b)] : List Value) M (rI (nI (sP3 1 0 r g b)) M) := by
  refine Ct.of (cc := cX6_part) (maxL := 6) (ret := (some .int)) (lv := [(0, .int (nI 1)), (1, .int (nI 0)), (2, .int (nI r)), (3, .int (nI g)), (4, .int (nI b))]) (by decide) rfl rfl (Nat.le_of_ble_eq_true rfl) ?_
  intro pg ev sg mm bl mt cd AZ C hret
  refine j_iload_n C dX6_part_0 rfl ?_
  refine j_if_neN C dX6_part_1 (tgt := 8) (by decide) (by omega) (fun cq1 => absurd cq1 (by decide)) (fun cq1 => ?_)
  refine j_iload_n C dX6_part_4 rfl ?_
  refine j_goto C dX6_part_5 (tgt := 19) (by decide) ?_
  refine j_istore C dX6_part_19 (by decide) ?_
  refine j_iload_n C dX6_part_21 rfl ?_
  refine j_tableIn C dX6_part_22 (off := 26) (tgt := 48) (by decide) (by decide) (by decide) (by decide) ?_
  refine j_iload_n C dX6_part_48 rfl ?_
  refine j_iconst C dX6_part_49 (v := nI 2) (by decide) ?_
  refine j_icmp_neN C dX6_part_50 (tgt := 58) (by decide) (by omega) (by omega) (fun cq50 => ?_) (fun cq50 => absurd cq50 (by decide))
  refine j_iload_n C dX6_part_58 rfl ?_
  refine j_iload_n C dX6_part_59 rfl ?_
  refine j_iaddN C dX6_part_60 ?_
  refine j_iconst C dX6_part_61 (v := nI 2) (by decide) ?_
  refine j_idivN C dX6_part_62 (by omega) (by decide) (by decide) ?_
  exact j_ireturn C hret dX6_part_63 ⟨rfl, rfl⟩

set_option maxHeartbeats 4000000 in
set_option maxRecDepth 100000 in
theorem cm_part_1_1 {l : Launch} {G : GG} {M : MM} {r g b : Nat} (hr : r ≤ 9) (hg : g ≤ 9) (hb : b ≤ 9) : Ct l G yX6_part wsX6_part 1 ([.int (nI 1), .int (nI 1), .int (nI r), .int (nI g), .int (nI b)] : List Value) M (rI (nI (sP3 1 1 r g b)) M) := by
  refine Ct.of (cc := cX6_part) (maxL := 6) (ret := (some .int)) (lv := [(0, .int (nI 1)), (1, .int (nI 1)), (2, .int (nI r)), (3, .int (nI g)), (4, .int (nI b))]) (by decide) rfl rfl (Nat.le_of_ble_eq_true rfl) ?_
  intro pg ev sg mm bl mt cd AZ C hret
  refine j_iload_n C dX6_part_0 rfl ?_
  refine j_if_neN C dX6_part_1 (tgt := 8) (by decide) (by omega) (fun cq1 => ?_) (fun cq1 => absurd cq1 (by decide))
  refine j_iload_n C dX6_part_8 rfl ?_
  refine j_iconst C dX6_part_9 (v := nI 1) (by decide) ?_
  refine j_icmp_neN C dX6_part_10 (tgt := 17) (by decide) (by omega) (by omega) (fun cq10 => absurd cq10 (by decide)) (fun cq10 => ?_)
  refine j_iload_n C dX6_part_13 rfl ?_
  refine j_goto C dX6_part_14 (tgt := 19) (by decide) ?_
  refine j_istore C dX6_part_19 (by decide) ?_
  refine j_iload_n C dX6_part_21 rfl ?_
  refine j_tableIn C dX6_part_22 (off := 26) (tgt := 48) (by decide) (by decide) (by decide) (by decide) ?_
  refine j_iload_n C dX6_part_48 rfl ?_
  refine j_iconst C dX6_part_49 (v := nI 2) (by decide) ?_
  refine j_icmp_neN C dX6_part_50 (tgt := 58) (by decide) (by omega) (by omega) (fun cq50 => ?_) (fun cq50 => absurd cq50 (by decide))
  refine j_iload_n C dX6_part_58 rfl ?_
  refine j_iload_n C dX6_part_59 rfl ?_
  refine j_iaddN C dX6_part_60 ?_
  refine j_iconst C dX6_part_61 (v := nI 2) (by decide) ?_
  refine j_idivN C dX6_part_62 (by omega) (by decide) (by decide) ?_
  exact j_ireturn C hret dX6_part_63 ⟨rfl, rfl⟩

set_option maxHeartbeats 4000000 in
set_option maxRecDepth 100000 in
theorem cm_part_1_2 {l : Launch} {G : GG} {M : MM} {r g b : Nat} (hr : r ≤ 9) (hg : g ≤ 9) (hb : b ≤ 9) : Ct l G yX6_part wsX6_part 1 ([.int (nI 1), .int (nI 2), .int (nI r), .int (nI g), .int (nI b)] : List Value) M (rI (nI (sP3 1 2 r g b)) M) := by
  refine Ct.of (cc := cX6_part) (maxL := 6) (ret := (some .int)) (lv := [(0, .int (nI 1)), (1, .int (nI 2)), (2, .int (nI r)), (3, .int (nI g)), (4, .int (nI b))]) (by decide) rfl rfl (Nat.le_of_ble_eq_true rfl) ?_
  intro pg ev sg mm bl mt cd AZ C hret
  refine j_iload_n C dX6_part_0 rfl ?_
  refine j_if_neN C dX6_part_1 (tgt := 8) (by decide) (by omega) (fun cq1 => ?_) (fun cq1 => absurd cq1 (by decide))
  refine j_iload_n C dX6_part_8 rfl ?_
  refine j_iconst C dX6_part_9 (v := nI 1) (by decide) ?_
  refine j_icmp_neN C dX6_part_10 (tgt := 17) (by decide) (by omega) (by omega) (fun cq10 => ?_) (fun cq10 => absurd cq10 (by decide))
  refine j_iload C dX6_part_17 rfl ?_
  refine j_istore C dX6_part_19 (by decide) ?_
  refine j_iload_n C dX6_part_21 rfl ?_
  refine j_tableIn C dX6_part_22 (off := 26) (tgt := 48) (by decide) (by decide) (by decide) (by decide) ?_
  refine j_iload_n C dX6_part_48 rfl ?_
  refine j_iconst C dX6_part_49 (v := nI 2) (by decide) ?_
  refine j_icmp_neN C dX6_part_50 (tgt := 58) (by decide) (by omega) (by omega) (fun cq50 => absurd cq50 (by decide)) (fun cq50 => ?_)
  refine j_iload C dX6_part_53 rfl ?_
  refine j_goto C dX6_part_55 (tgt := 63) (by decide) ?_
  exact j_ireturn C hret dX6_part_63 ⟨rfl, rfl⟩

set_option maxHeartbeats 4000000 in
set_option maxRecDepth 100000 in
theorem cm_part_2_0 {l : Launch} {G : GG} {M : MM} {r g b : Nat} (hr : r ≤ 9) (hg : g ≤ 9) (hb : b ≤ 9) : Ct l G yX6_part wsX6_part 1 ([.int (nI 2), .int (nI 0), .int (nI r), .int (nI g), .int (nI b)] : List Value) M (rI (nI (sP3 2 0 r g b)) M) := by
  refine Ct.of (cc := cX6_part) (maxL := 6) (ret := (some .int)) (lv := [(0, .int (nI 2)), (1, .int (nI 0)), (2, .int (nI r)), (3, .int (nI g)), (4, .int (nI b))]) (by decide) rfl rfl (Nat.le_of_ble_eq_true rfl) ?_
  intro pg ev sg mm bl mt cd AZ C hret
  refine j_iload_n C dX6_part_0 rfl ?_
  refine j_if_neN C dX6_part_1 (tgt := 8) (by decide) (by omega) (fun cq1 => absurd cq1 (by decide)) (fun cq1 => ?_)
  refine j_iload_n C dX6_part_4 rfl ?_
  refine j_goto C dX6_part_5 (tgt := 19) (by decide) ?_
  refine j_istore C dX6_part_19 (by decide) ?_
  refine j_iload_n C dX6_part_21 rfl ?_
  refine j_tableIn C dX6_part_22 (off := 42) (tgt := 64) (by decide) (by decide) (by decide) (by decide) ?_
  refine j_iload_n C dX6_part_64 rfl ?_
  refine j_iconst C dX6_part_65 (v := nI 2) (by decide) ?_
  refine j_icmp_neN C dX6_part_66 (tgt := 73) (by decide) (by omega) (by omega) (fun cq66 => ?_) (fun cq66 => absurd cq66 (by decide))
  refine j_iload C dX6_part_73 rfl ?_
  exact j_ireturn C hret dX6_part_75 ⟨rfl, rfl⟩

set_option maxHeartbeats 4000000 in
set_option maxRecDepth 100000 in
theorem cm_part_2_1 {l : Launch} {G : GG} {M : MM} {r g b : Nat} (hr : r ≤ 9) (hg : g ≤ 9) (hb : b ≤ 9) : Ct l G yX6_part wsX6_part 1 ([.int (nI 2), .int (nI 1), .int (nI r), .int (nI g), .int (nI b)] : List Value) M (rI (nI (sP3 2 1 r g b)) M) := by
  refine Ct.of (cc := cX6_part) (maxL := 6) (ret := (some .int)) (lv := [(0, .int (nI 2)), (1, .int (nI 1)), (2, .int (nI r)), (3, .int (nI g)), (4, .int (nI b))]) (by decide) rfl rfl (Nat.le_of_ble_eq_true rfl) ?_
  intro pg ev sg mm bl mt cd AZ C hret
  refine j_iload_n C dX6_part_0 rfl ?_
  refine j_if_neN C dX6_part_1 (tgt := 8) (by decide) (by omega) (fun cq1 => ?_) (fun cq1 => absurd cq1 (by decide))
  refine j_iload_n C dX6_part_8 rfl ?_
  refine j_iconst C dX6_part_9 (v := nI 1) (by decide) ?_
  refine j_icmp_neN C dX6_part_10 (tgt := 17) (by decide) (by omega) (by omega) (fun cq10 => absurd cq10 (by decide)) (fun cq10 => ?_)
  refine j_iload_n C dX6_part_13 rfl ?_
  refine j_goto C dX6_part_14 (tgt := 19) (by decide) ?_
  refine j_istore C dX6_part_19 (by decide) ?_
  refine j_iload_n C dX6_part_21 rfl ?_
  refine j_tableIn C dX6_part_22 (off := 42) (tgt := 64) (by decide) (by decide) (by decide) (by decide) ?_
  refine j_iload_n C dX6_part_64 rfl ?_
  refine j_iconst C dX6_part_65 (v := nI 2) (by decide) ?_
  refine j_icmp_neN C dX6_part_66 (tgt := 73) (by decide) (by omega) (by omega) (fun cq66 => ?_) (fun cq66 => absurd cq66 (by decide))
  refine j_iload C dX6_part_73 rfl ?_
  exact j_ireturn C hret dX6_part_75 ⟨rfl, rfl⟩

set_option maxHeartbeats 4000000 in
set_option maxRecDepth 100000 in
theorem cm_part_2_2 {l : Launch} {G : GG} {M : MM} {r g b : Nat} (hr : r ≤ 9) (hg : g ≤ 9) (hb : b ≤ 9) : Ct l G yX6_part wsX6_part 1 ([.int (nI 2), .int (nI 2), .int (nI r), .int (nI g), .int (nI b)] : List Value) M (rI (nI (sP3 2 2 r g b)) M) := by
  refine Ct.of (cc := cX6_part) (maxL := 6) (ret := (some .int)) (lv := [(0, .int (nI 2)), (1, .int (nI 2)), (2, .int (nI r)), (3, .int (nI g)), (4, .int (nI b))]) (by decide) rfl rfl (Nat.le_of_ble_eq_true rfl) ?_
  intro pg ev sg mm bl mt cd AZ C hret
  refine j_iload_n C dX6_part_0 rfl ?_
  refine j_if_neN C dX6_part_1 (tgt := 8) (by decide) (by omega) (fun cq1 => ?_) (fun cq1 => absurd cq1 (by decide))
  refine j_iload_n C dX6_part_8 rfl ?_
  refine j_iconst C dX6_part_9 (v := nI 1) (by decide) ?_
  refine j_icmp_neN C dX6_part_10 (tgt := 17) (by decide) (by omega) (by omega) (fun cq10 => ?_) (fun cq10 => absurd cq10 (by decide))
  refine j_iload C dX6_part_17 rfl ?_
  refine j_istore C dX6_part_19 (by decide) ?_
  refine j_iload_n C dX6_part_21 rfl ?_
  refine j_tableIn C dX6_part_22 (off := 42) (tgt := 64) (by decide) (by decide) (by decide) (by decide) ?_
  refine j_iload_n C dX6_part_64 rfl ?_
  refine j_iconst C dX6_part_65 (v := nI 2) (by decide) ?_
  refine j_icmp_neN C dX6_part_66 (tgt := 73) (by decide) (by omega) (by omega) (fun cq66 => absurd cq66 (by decide)) (fun cq66 => ?_)
  refine j_iconst C dX6_part_69 (v := nI 0) (by decide) ?_
  refine j_goto C dX6_part_70 (tgt := 75) (by decide) ?_
  exact j_ireturn C hret dX6_part_75 ⟨rfl, rfl⟩

set_option maxHeartbeats 4000000 in
set_option maxRecDepth 100000 in
theorem cm_part_3_0 {l : Launch} {G : GG} {M : MM} {r g b : Nat} (hr : r ≤ 9) (hg : g ≤ 9) (hb : b ≤ 9) : Ct l G yX6_part wsX6_part 1 ([.int (nI 3), .int (nI 0), .int (nI r), .int (nI g), .int (nI b)] : List Value) M (rI (nI (sP3 3 0 r g b)) M) := by
  refine Ct.of (cc := cX6_part) (maxL := 6) (ret := (some .int)) (lv := [(0, .int (nI 3)), (1, .int (nI 0)), (2, .int (nI r)), (3, .int (nI g)), (4, .int (nI b))]) (by decide) rfl rfl (Nat.le_of_ble_eq_true rfl) ?_
  intro pg ev sg mm bl mt cd AZ C hret
  refine j_iload_n C dX6_part_0 rfl ?_
  refine j_if_neN C dX6_part_1 (tgt := 8) (by decide) (by omega) (fun cq1 => absurd cq1 (by decide)) (fun cq1 => ?_)
  refine j_iload_n C dX6_part_4 rfl ?_
  refine j_goto C dX6_part_5 (tgt := 19) (by decide) ?_
  refine j_istore C dX6_part_19 (by decide) ?_
  refine j_iload_n C dX6_part_21 rfl ?_
  refine j_tableIn C dX6_part_22 (off := 54) (tgt := 76) (by decide) (by decide) (by decide) (by decide) ?_
  refine j_iload_n C dX6_part_76 rfl ?_
  refine j_iload_n C dX6_part_77 rfl ?_
  refine j_iaddN C dX6_part_78 ?_
  refine j_iload C dX6_part_79 rfl ?_
  refine j_iaddN C dX6_part_81 ?_
  refine j_iconst C dX6_part_82 (v := nI 3) (by decide) ?_
  refine j_idivN C dX6_part_83 (by omega) (by decide) (by decide) ?_
  exact j_ireturn C hret dX6_part_84 ⟨rfl, rfl⟩

set_option maxHeartbeats 4000000 in
set_option maxRecDepth 100000 in
theorem cm_part_3_1 {l : Launch} {G : GG} {M : MM} {r g b : Nat} (hr : r ≤ 9) (hg : g ≤ 9) (hb : b ≤ 9) : Ct l G yX6_part wsX6_part 1 ([.int (nI 3), .int (nI 1), .int (nI r), .int (nI g), .int (nI b)] : List Value) M (rI (nI (sP3 3 1 r g b)) M) := by
  refine Ct.of (cc := cX6_part) (maxL := 6) (ret := (some .int)) (lv := [(0, .int (nI 3)), (1, .int (nI 1)), (2, .int (nI r)), (3, .int (nI g)), (4, .int (nI b))]) (by decide) rfl rfl (Nat.le_of_ble_eq_true rfl) ?_
  intro pg ev sg mm bl mt cd AZ C hret
  refine j_iload_n C dX6_part_0 rfl ?_
  refine j_if_neN C dX6_part_1 (tgt := 8) (by decide) (by omega) (fun cq1 => ?_) (fun cq1 => absurd cq1 (by decide))
  refine j_iload_n C dX6_part_8 rfl ?_
  refine j_iconst C dX6_part_9 (v := nI 1) (by decide) ?_
  refine j_icmp_neN C dX6_part_10 (tgt := 17) (by decide) (by omega) (by omega) (fun cq10 => absurd cq10 (by decide)) (fun cq10 => ?_)
  refine j_iload_n C dX6_part_13 rfl ?_
  refine j_goto C dX6_part_14 (tgt := 19) (by decide) ?_
  refine j_istore C dX6_part_19 (by decide) ?_
  refine j_iload_n C dX6_part_21 rfl ?_
  refine j_tableIn C dX6_part_22 (off := 54) (tgt := 76) (by decide) (by decide) (by decide) (by decide) ?_
  refine j_iload_n C dX6_part_76 rfl ?_
  refine j_iload_n C dX6_part_77 rfl ?_
  refine j_iaddN C dX6_part_78 ?_
  refine j_iload C dX6_part_79 rfl ?_
  refine j_iaddN C dX6_part_81 ?_
  refine j_iconst C dX6_part_82 (v := nI 3) (by decide) ?_
  refine j_idivN C dX6_part_83 (by omega) (by decide) (by decide) ?_
  exact j_ireturn C hret dX6_part_84 ⟨rfl, rfl⟩

set_option maxHeartbeats 4000000 in
set_option maxRecDepth 100000 in
theorem cm_part_3_2 {l : Launch} {G : GG} {M : MM} {r g b : Nat} (hr : r ≤ 9) (hg : g ≤ 9) (hb : b ≤ 9) : Ct l G yX6_part wsX6_part 1 ([.int (nI 3), .int (nI 2), .int (nI r), .int (nI g), .int (nI b)] : List Value) M (rI (nI (sP3 3 2 r g b)) M) := by
  refine Ct.of (cc := cX6_part) (maxL := 6) (ret := (some .int)) (lv := [(0, .int (nI 3)), (1, .int (nI 2)), (2, .int (nI r)), (3, .int (nI g)), (4, .int (nI b))]) (by decide) rfl rfl (Nat.le_of_ble_eq_true rfl) ?_
  intro pg ev sg mm bl mt cd AZ C hret
  refine j_iload_n C dX6_part_0 rfl ?_
  refine j_if_neN C dX6_part_1 (tgt := 8) (by decide) (by omega) (fun cq1 => ?_) (fun cq1 => absurd cq1 (by decide))
  refine j_iload_n C dX6_part_8 rfl ?_
  refine j_iconst C dX6_part_9 (v := nI 1) (by decide) ?_
  refine j_icmp_neN C dX6_part_10 (tgt := 17) (by decide) (by omega) (by omega) (fun cq10 => ?_) (fun cq10 => absurd cq10 (by decide))
  refine j_iload C dX6_part_17 rfl ?_
  refine j_istore C dX6_part_19 (by decide) ?_
  refine j_iload_n C dX6_part_21 rfl ?_
  refine j_tableIn C dX6_part_22 (off := 54) (tgt := 76) (by decide) (by decide) (by decide) (by decide) ?_
  refine j_iload_n C dX6_part_76 rfl ?_
  refine j_iload_n C dX6_part_77 rfl ?_
  refine j_iaddN C dX6_part_78 ?_
  refine j_iload C dX6_part_79 rfl ?_
  refine j_iaddN C dX6_part_81 ?_
  refine j_iconst C dX6_part_82 (v := nI 3) (by decide) ?_
  refine j_idivN C dX6_part_83 (by omega) (by decide) (by decide) ?_
  exact j_ireturn C hret dX6_part_84 ⟨rfl, rfl⟩

theorem cm_part {l : Launch} {G : GG} {M : MM} {kd k r g b : Nat} (hk : kd ≤ 3) (hk2 : k < 3) (hr : r ≤ 9) (hg : g ≤ 9) (hb : b ≤ 9) : Ct l G yX6_part wsX6_part 1 [.int (nI kd), .int (nI k), .int (nI r), .int (nI g), .int (nI b)] M (rI (nI (sP3 kd k r g b)) M) := by
  rcases (show kd = 0 ∨ kd = 1 ∨ kd = 2 ∨ kd = 3 by omega) with rfl | rfl | rfl | rfl <;> rcases (show k = 0 ∨ k = 1 ∨ k = 2 by omega) with rfl | rfl | rfl
  · exact cm_part_0_0 hr hg hb
  · exact cm_part_0_1 hr hg hb
  · exact cm_part_0_2 hr hg hb
  · exact cm_part_1_0 hr hg hb
  · exact cm_part_1_1 hr hg hb
  · exact cm_part_1_2 hr hg hb
  · exact cm_part_2_0 hr hg hb
  · exact cm_part_2_1 hr hg hb
  · exact cm_part_2_2 hr hg hb
  · exact cm_part_3_0 hr hg hb
  · exact cm_part_3_1 hr hg hb
  · exact cm_part_3_2 hr hg hb

set_option maxHeartbeats 4000000 in
set_option maxRecDepth 100000 in
theorem cm_distance {l : Launch} {G : GG} {M : MM} {σ : Sg} (hS : Sm M 0 σ) (hW : Wf σ) {kd r g b j : Nat} (hk : kd ≤ 3) (hr : r ≤ 9) (hg : g ≤ 9) (hb : b ≤ 9) (hj : j < 8) : Ct l G yX6_distance wsX6_distance 2 ([.ref (G.2.2 84), .int (nI kd), .int (nI r), .int (nI g), .int (nI b), .int (nI j)] : List Value) M (rI (nI (dist kd r g b (σ (4 * j)) (σ (4 * j + 1)) (σ (4 * j + 2)))) M) := by
  obtain ⟨r1, r2, r3, r4⟩ := hW.1 j hj
  refine Ct.of (cc := cX6_distance) (maxL := 8) (ret := (some .int)) (lv := [(0, .ref (G.2.2 84)), (1, .int (nI kd)), (2, .int (nI r)), (3, .int (nI g)), (4, .int (nI b)), (5, .int (nI j))]) (by decide) rfl rfl (Nat.le_of_ble_eq_true rfl) ?_
  intro pg ev sg mm bl mt cd AZ C hret
  refine j_iconst C dX6_distance_0 (v := nI 0) (by decide) ?_
  refine j_istore C dX6_distance_1 (by decide) ?_
  refine j_iconst C dX6_distance_3 (v := nI 0) (by decide) ?_
  refine j_istore C dX6_distance_4 (by decide) ?_
  have L6 : ∀ n, n ≤ 3 → J G pg l ev (rmD 2) sg mm ([.ref (G.2.2 84), .int (nI kd), .int (nI r), .int (nI g), .int (nI b), .int (nI j)] : List Value).toArray bl mt cd AZ 8 (MQ bl (QQ G (rI (nI (dist kd r g b (σ (4 * j)) (σ (4 * j + 1)) (σ (4 * j + 2)))) M) AZ) ([.ref (G.2.2 84), .int (nI kd), .int (nI r), .int (nI g), .int (nI b), .int (nI j)] : List Value).toArray sg 0 0 AZ) 0 0 6 [(0, .ref (G.2.2 84)), (1, .int (nI kd)), (2, .int (nI r)), (3, .int (nI g)), (4, .int (nI b)), (5, .int (nI j)), (6, .int (nI (dsum kd r g b (σ (4 * j)) (σ (4 * j + 1)) (σ (4 * j + 2)) n))), (7, .int (nI n))] [] (M) := by
    refine dnto ?_
    intro n hn6 ih6
    refine j_iload C dX6_distance_6 rfl ?_
    refine j_iconst C dX6_distance_8 (v := nI 3) (by decide) ?_
    refine j_icmp_geN C dX6_distance_9 (tgt := 74) (by decide) (by omega) (by omega) (fun cq9 => ?_) (fun cq9 => ?_)
    · refine j_iload C dX6_distance_74 rfl ?_
      exact j_ireturn C hret dX6_distance_76 ⟨congrArg (fun z => some (Value.int (nI z))) (by rw [show n = 3 by omega, dsum_3]), rfl⟩
    · have b1 := sP3_le (kd := kd) (k := n) hr hg hb
      have b2 := sP3_le (kd := kd) (k := n) r1 r2 r3
      refine j_iload C dX6_distance_12 rfl ?_
      refine j_iload_n C dX6_distance_14 rfl ?_
      refine j_iload C dX6_distance_15 rfl ?_
      refine j_iload_n C dX6_distance_17 rfl ?_
      refine j_iload_n C dX6_distance_18 rfl ?_
      refine j_iload C dX6_distance_19 rfl ?_
      refine j_callS C (cm_part (by omega) (by omega) (by omega) (by omega) (by omega)) dX6_distance_21 gX6_distance_X6_part rfl ks_X6_part rfl rfl (Nat.le_of_ble_eq_true rfl) ⟨by decide, by decide⟩ ⟨Nat.zero_le _, Nat.zero_le _⟩ (k_I ?_)
      refine j_iload_n C dX6_distance_24 rfl ?_
      refine j_iload C dX6_distance_25 rfl ?_
      refine j_aload_n C dX6_distance_27 rfl ?_
      refine j_getf C dX6_distance_28 rfl (by decide) (T := TX6) rfl in_X6_distance_X6 (k := 0) (by decide) fl_X6_distance_7 rfl rfl ?_
      refine j_iconst C dX6_distance_31 (v := nI 4) (by decide) ?_
      refine j_iload C dX6_distance_32 rfl ?_
      refine j_imulN C dX6_distance_34 ?_
      refine j_ialdN C dX6_distance_35 (show ilen 85 = some 531 from rfl) (by omega) (by decide) ?_
      refine j_top C _ (m_c0 hS (by omega)) ?_
      refine j_aload_n C dX6_distance_36 rfl ?_
      refine j_getf C dX6_distance_37 rfl (by decide) (T := TX6) rfl in_X6_distance_X6 (k := 0) (by decide) fl_X6_distance_7 rfl rfl ?_
      refine j_iconst C dX6_distance_40 (v := nI 4) (by decide) ?_
      refine j_iload C dX6_distance_41 rfl ?_
      refine j_imulN C dX6_distance_43 ?_
      refine j_iconst C dX6_distance_44 (v := nI 1) (by decide) ?_
      refine j_iaddN C dX6_distance_45 ?_
      refine j_ialdN C dX6_distance_46 (show ilen 85 = some 531 from rfl) (by omega) (by decide) ?_
      refine j_top C _ (m_c1 hS (by omega)) ?_
      refine j_aload_n C dX6_distance_47 rfl ?_
      refine j_getf C dX6_distance_48 rfl (by decide) (T := TX6) rfl in_X6_distance_X6 (k := 0) (by decide) fl_X6_distance_7 rfl rfl ?_
      refine j_iconst C dX6_distance_51 (v := nI 4) (by decide) ?_
      refine j_iload C dX6_distance_52 rfl ?_
      refine j_imulN C dX6_distance_54 ?_
      refine j_iconst C dX6_distance_55 (v := nI 2) (by decide) ?_
      refine j_iaddN C dX6_distance_56 ?_
      refine j_ialdN C dX6_distance_57 (show ilen 85 = some 531 from rfl) (by omega) (by decide) ?_
      refine j_top C _ (m_c2 hS (by omega)) ?_
      refine j_callS C (cm_part (by omega) (by omega) (by omega) (by omega) (by omega)) dX6_distance_58 gX6_distance_X6_part rfl ks_X6_part rfl rfl (Nat.le_of_ble_eq_true rfl) ⟨by decide, by decide⟩ ⟨Nat.zero_le _, Nat.zero_le _⟩ (k_I ?_)
      refine j_isub C dX6_distance_61 ?_
      refine j_callS C (cm_size (by omega) (by omega)) dX6_distance_62 gX6_distance_X6_size rfl ks_X6_size rfl rfl (Nat.le_of_ble_eq_true rfl) ⟨by decide, by decide⟩ ⟨Nat.zero_le _, Nat.zero_le _⟩ (k_I ?_)
      refine j_iaddN C dX6_distance_65 ?_
      refine j_istore C dX6_distance_66 (by decide) ?_
      refine j_iincN C dX6_distance_68 rfl (by decide) ?_
      refine j_goto C dX6_distance_71 (tgt := 6) (by decide) ?_
      exact ih6 (by omega)
  exact L6 0 (by omega)

set_option maxHeartbeats 4000000 in
set_option maxRecDepth 100000 in
theorem cm_tells {l : Launch} {G : GG} {M : MM} {σ : Sg} (hS : Sm M 0 σ) (hW : Wf σ) {p ln r g b j : Nat} (hp : p < 4) (hln : ln ≤ 4) (hr : r ≤ 9) (hg : g ≤ 9) (hb : b ≤ 9) (hj : j < 8) : Ct l G yX6_tells wsX6_tells 3 ([.ref (G.2.2 84), .int (nI p), .int (oI ln), .int (nI r), .int (nI g), .int (nI b), .int (nI j)] : List Value) M (rI (bI (tl σ p ln r g b j)) M) := by
  obtain ⟨hk, hs, hl⟩ := hW.2.1 p hp
  obtain ⟨r1, r2, r3, r4⟩ := hW.1 j hj
  have hk2 : ¬ ln = 0 → σ (32 + 3 * (ln - 1)) ≤ 3 := fun h => (hW.2.1 (ln - 1) (by omega)).1
  have hd1 := dist_le (kd := σ (32 + 3 * p)) hr hg hb r1 r2 r3
  have hd2 := dist_le (kd := σ (32 + 3 * (ln - 1))) hr hg hb r1 r2 r3
  refine Ct.of (cc := cX6_tells) (maxL := 8) (ret := (some .boolean)) (lv := [(0, .ref (G.2.2 84)), (1, .int (nI p)), (2, .int (oI ln)), (3, .int (nI r)), (4, .int (nI g)), (5, .int (nI b)), (6, .int (nI j))]) (by decide) rfl rfl (Nat.le_of_ble_eq_true rfl) ?_
  intro pg ev sg mm bl mt cd AZ C hret
  refine j_iload_n C dX6_tells_0 rfl ?_
  refine j_callS C cm_at dX6_tells_1 gX6_tells_X6_at rfl ks_X6_at rfl rfl (Nat.le_of_ble_eq_true rfl) ⟨by decide, by decide⟩ ⟨Nat.zero_le _, Nat.zero_le _⟩ (k_I ?_)
  refine j_istore C dX6_tells_4 (by decide) ?_
  refine j_aload_n C dX6_tells_6 rfl ?_
  refine j_aload_n C dX6_tells_7 rfl ?_
  refine j_getf C dX6_tells_8 rfl (by decide) (T := TX6) rfl in_X6_tells_X6 (k := 0) (by decide) fl_X6_tells_7 rfl rfl ?_
  refine j_iload C dX6_tells_11 rfl ?_
  refine j_ialdN C dX6_tells_13 (show ilen 85 = some 531 from rfl) (by omega) (by decide) ?_
  refine j_top C _ (m_kd hS (by omega)) ?_
  refine j_iload_n C dX6_tells_14 rfl ?_
  refine j_iload C dX6_tells_15 rfl ?_
  refine j_iload C dX6_tells_17 rfl ?_
  refine j_iload C dX6_tells_19 rfl ?_
  refine j_callV C (cm_distance hS hW hk hr hg hb hj) dX6_tells_21 rfl (by decide) (T := TX6) rfl gX6_tells_X6_distance rfl kd_X6_distance rfl rfl (Nat.le_of_ble_eq_true rfl) ⟨by decide, by decide⟩ ⟨Nat.zero_le _, Nat.zero_le _⟩ (k_I ?_)
  refine j_aload_n C dX6_tells_24 rfl ?_
  refine j_getf C dX6_tells_25 rfl (by decide) (T := TX6) rfl in_X6_tells_X6 (k := 0) (by decide) fl_X6_tells_7 rfl rfl ?_
  refine j_iload C dX6_tells_28 rfl ?_
  refine j_iconst C dX6_tells_30 (v := nI 1) (by decide) ?_
  refine j_iaddN C dX6_tells_31 ?_
  refine j_ialdN C dX6_tells_32 (show ilen 85 = some 531 from rfl) (by omega) (by decide) ?_
  refine j_top C _ (m_sh hS (by omega)) ?_
  refine j_icmp_gtN C dX6_tells_33 (tgt := 73) (by decide) (by omega) (by omega) (fun cq33 => ?_) (fun cq33 => ?_)
  · refine j_iconst C dX6_tells_73 (v := nI 1) (by decide) ?_
    refine j_top C (bI (tl σ p ln r g b j)) (by first | exact tC_t1 cq33 | exact tC_t2 cq38 cq70) ?_
    refine j_goto C dX6_tells_74 (tgt := 78) (by decide) ?_
    exact j_zreturn C hret dX6_tells_78 ⟨rfl, rfl⟩
  · refine j_iload_n C dX6_tells_36 rfl ?_
    refine j_iconst C dX6_tells_37 (v := -1) (by decide) ?_
    refine j_icmp_eqO C dX6_tells_38 (tgt := 77) (by decide) (by omega) (fun cq38 => ?_) (fun cq38 => ?_)
    · refine j_iconst C dX6_tells_77 (v := nI 0) (by decide) ?_
      refine j_top C (bI (tl σ p ln r g b j)) (by first | exact tC_f1 cq33 cq38 | exact tC_f2 cq33 cq70) ?_
      exact j_zreturn C hret dX6_tells_78 ⟨rfl, rfl⟩
    · refine j_aload_n C dX6_tells_41 rfl ?_
      refine j_aload_n C dX6_tells_42 rfl ?_
      refine j_getf C dX6_tells_43 rfl (by decide) (T := TX6) rfl in_X6_tells_X6 (k := 0) (by decide) fl_X6_tells_7 rfl rfl ?_
      refine j_iload_n C dX6_tells_46 rfl ?_
      refine j_top C (_) (oI_pos cq38) ?_
      refine j_callS C cm_at dX6_tells_47 gX6_tells_X6_at rfl ks_X6_at rfl rfl (Nat.le_of_ble_eq_true rfl) ⟨by decide, by decide⟩ ⟨Nat.zero_le _, Nat.zero_le _⟩ (k_I ?_)
      refine j_ialdN C dX6_tells_50 (show ilen 85 = some 531 from rfl) (by omega) (by decide) ?_
      refine j_top C _ (m_kd hS (by omega)) ?_
      refine j_iload_n C dX6_tells_51 rfl ?_
      refine j_iload C dX6_tells_52 rfl ?_
      refine j_iload C dX6_tells_54 rfl ?_
      refine j_iload C dX6_tells_56 rfl ?_
      refine j_callV C (cm_distance hS hW (hk2 cq38) hr hg hb hj) dX6_tells_58 rfl (by decide) (T := TX6) rfl gX6_tells_X6_distance rfl kd_X6_distance rfl rfl (Nat.le_of_ble_eq_true rfl) ⟨by decide, by decide⟩ ⟨Nat.zero_le _, Nat.zero_le _⟩ (k_I ?_)
      refine j_aload_n C dX6_tells_61 rfl ?_
      refine j_getf C dX6_tells_62 rfl (by decide) (T := TX6) rfl in_X6_tells_X6 (k := 0) (by decide) fl_X6_tells_7 rfl rfl ?_
      refine j_iload C dX6_tells_65 rfl ?_
      refine j_iconst C dX6_tells_67 (v := nI 1) (by decide) ?_
      refine j_iaddN C dX6_tells_68 ?_
      refine j_ialdN C dX6_tells_69 (show ilen 85 = some 531 from rfl) (by omega) (by decide) ?_
      refine j_top C _ (m_sh hS (by omega)) ?_
      refine j_icmp_leN C dX6_tells_70 (tgt := 77) (by decide) (by omega) (by omega) (fun cq70 => ?_) (fun cq70 => ?_)
      · refine j_iconst C dX6_tells_77 (v := nI 0) (by decide) ?_
        refine j_top C (bI (tl σ p ln r g b j)) (by first | exact tC_f1 cq33 cq38 | exact tC_f2 cq33 cq70) ?_
        exact j_zreturn C hret dX6_tells_78 ⟨rfl, rfl⟩
      · refine j_iconst C dX6_tells_73 (v := nI 1) (by decide) ?_
        refine j_top C (bI (tl σ p ln r g b j)) (by first | exact tC_t1 cq33 | exact tC_t2 cq38 cq70) ?_
        refine j_goto C dX6_tells_74 (tgt := 78) (by decide) ?_
        exact j_zreturn C hret dX6_tells_78 ⟨rfl, rfl⟩

set_option maxHeartbeats 4000000 in
set_option maxRecDepth 100000 in
theorem cm_areApartWith {l : Launch} {G : GG} {M : MM} {σ : Sg} (hS : Sm M 0 σ) (hW : Wf σ) {p ln i j : Nat} (hp : p < 4) (hln : ln ≤ 4) (hi : i < 8) (hj : j < 8) : Ct l G yX6_areApartWith wsX6_areApartWith 4 ([.ref (G.2.2 84), .int (nI p), .int (oI ln), .int (nI i), .int (nI j)] : List Value) M (rI (bI (apW σ p ln i j)) M) := by
  obtain ⟨q1, q2, q3, q4⟩ := hW.1 i hi
  refine Ct.of (cc := cX6_areApartWith) (maxL := 5) (ret := (some .boolean)) (lv := [(0, .ref (G.2.2 84)), (1, .int (nI p)), (2, .int (oI ln)), (3, .int (nI i)), (4, .int (nI j))]) (by decide) rfl rfl (Nat.le_of_ble_eq_true rfl) ?_
  intro pg ev sg mm bl mt cd AZ C hret
  refine j_aload_n C dX6_areApartWith_0 rfl ?_
  refine j_iload_n C dX6_areApartWith_1 rfl ?_
  refine j_iload_n C dX6_areApartWith_2 rfl ?_
  refine j_aload_n C dX6_areApartWith_3 rfl ?_
  refine j_getf C dX6_areApartWith_4 rfl (by decide) (T := TX6) rfl in_X6_areApartWith_X6 (k := 0) (by decide) fl_X6_areApartWith_7 rfl rfl ?_
  refine j_iconst C dX6_areApartWith_7 (v := nI 4) (by decide) ?_
  refine j_iload_n C dX6_areApartWith_8 rfl ?_
  refine j_imulN C dX6_areApartWith_9 ?_
  refine j_ialdN C dX6_areApartWith_10 (show ilen 85 = some 531 from rfl) (by omega) (by decide) ?_
  refine j_top C _ (m_c0 hS (by omega)) ?_
  refine j_aload_n C dX6_areApartWith_11 rfl ?_
  refine j_getf C dX6_areApartWith_12 rfl (by decide) (T := TX6) rfl in_X6_areApartWith_X6 (k := 0) (by decide) fl_X6_areApartWith_7 rfl rfl ?_
  refine j_iconst C dX6_areApartWith_15 (v := nI 4) (by decide) ?_
  refine j_iload_n C dX6_areApartWith_16 rfl ?_
  refine j_imulN C dX6_areApartWith_17 ?_
  refine j_iconst C dX6_areApartWith_18 (v := nI 1) (by decide) ?_
  refine j_iaddN C dX6_areApartWith_19 ?_
  refine j_ialdN C dX6_areApartWith_20 (show ilen 85 = some 531 from rfl) (by omega) (by decide) ?_
  refine j_top C _ (m_c1 hS (by omega)) ?_
  refine j_aload_n C dX6_areApartWith_21 rfl ?_
  refine j_getf C dX6_areApartWith_22 rfl (by decide) (T := TX6) rfl in_X6_areApartWith_X6 (k := 0) (by decide) fl_X6_areApartWith_7 rfl rfl ?_
  refine j_iconst C dX6_areApartWith_25 (v := nI 4) (by decide) ?_
  refine j_iload_n C dX6_areApartWith_26 rfl ?_
  refine j_imulN C dX6_areApartWith_27 ?_
  refine j_iconst C dX6_areApartWith_28 (v := nI 2) (by decide) ?_
  refine j_iaddN C dX6_areApartWith_29 ?_
  refine j_ialdN C dX6_areApartWith_30 (show ilen 85 = some 531 from rfl) (by omega) (by decide) ?_
  refine j_top C _ (m_c2 hS (by omega)) ?_
  refine j_iload C dX6_areApartWith_31 rfl ?_
  refine j_callV C (cm_tells hS hW (by omega) (by omega) (by omega) (by omega) (by omega) (by omega)) dX6_areApartWith_33 rfl (by decide) (T := TX6) rfl gX6_areApartWith_X6_tells rfl kd_X6_tells rfl rfl (Nat.le_of_ble_eq_true rfl) ⟨by decide, by decide⟩ ⟨Nat.zero_le _, Nat.zero_le _⟩ (k_I ?_)
  exact j_zreturn C hret dX6_areApartWith_36 ⟨rfl, rfl⟩

set_option maxHeartbeats 4000000 in
set_option maxRecDepth 100000 in
theorem cm_areApart {l : Launch} {G : GG} {M : MM} {σ : Sg} (hS : Sm M 0 σ) (hW : Wf σ) {p i j : Nat} (hp : p < 4) (hi : i < 8) (hj : j < 8) : Ct l G yX6_areApart wsX6_areApart 5 ([.ref (G.2.2 84), .int (nI p), .int (nI i), .int (nI j)] : List Value) M (rI (bI (ap σ p i j)) M) := by
  obtain ⟨hk, hs, hl⟩ := hW.2.1 p hp
  refine Ct.of (cc := cX6_areApart) (maxL := 4) (ret := (some .boolean)) (lv := [(0, .ref (G.2.2 84)), (1, .int (nI p)), (2, .int (nI i)), (3, .int (nI j))]) (by decide) rfl rfl (Nat.le_of_ble_eq_true rfl) ?_
  intro pg ev sg mm bl mt cd AZ C hret
  refine j_aload_n C dX6_areApart_0 rfl ?_
  refine j_iload_n C dX6_areApart_1 rfl ?_
  refine j_aload_n C dX6_areApart_2 rfl ?_
  refine j_getf C dX6_areApart_3 rfl (by decide) (T := TX6) rfl in_X6_areApart_X6 (k := 0) (by decide) fl_X6_areApart_7 rfl rfl ?_
  refine j_iload_n C dX6_areApart_6 rfl ?_
  refine j_callS C cm_at dX6_areApart_7 gX6_areApart_X6_at rfl ks_X6_at rfl rfl (Nat.le_of_ble_eq_true rfl) ⟨by decide, by decide⟩ ⟨Nat.zero_le _, Nat.zero_le _⟩ (k_I ?_)
  refine j_iconst C dX6_areApart_10 (v := nI 2) (by decide) ?_
  refine j_iaddN C dX6_areApart_11 ?_
  refine j_ialdN C dX6_areApart_12 (show ilen 85 = some 531 from rfl) (by omega) (by decide) ?_
  refine j_top C _ (m_ln hS (by omega)) ?_
  refine j_iload_n C dX6_areApart_13 rfl ?_
  refine j_iload_n C dX6_areApart_14 rfl ?_
  refine j_callV C (cm_areApartWith hS hW (by omega) (by omega) (by omega) (by omega)) dX6_areApart_15 rfl (by decide) (T := TX6) rfl gX6_areApart_X6_areApartWith rfl kd_X6_areApartWith rfl rfl (Nat.le_of_ble_eq_true rfl) ⟨by decide, by decide⟩ ⟨Nat.zero_le _, Nat.zero_le _⟩ (k_I ?_)
  exact j_zreturn C hret dX6_areApart_18 ⟨rfl, rfl⟩

theorem prF_t {σ : Sg} {p ln k : Nat} (h : k / 8 < k % 8) (h2 : apW σ p ln (k / 8) (k % 8) = true) : prF σ p ln k = true := by unfold prF; rw [decide_eq_true h, h2]; rfl
theorem prF_f1 {σ : Sg} {p ln k : Nat} (h : k % 8 ≤ k / 8) : prF σ p ln k = false := by unfold prF; rw [decide_eq_false (Nat.not_lt.mpr h)]; rfl
theorem prF_f2 {σ : Sg} {p ln k : Nat} (h2 : apW σ p ln (k / 8) (k % 8) = false) : prF σ p ln k = false := by unfold prF; rw [h2, Bool.and_false]

set_option maxHeartbeats 4000000 in
set_option maxRecDepth 100000 in
theorem cm_pairsWith {l : Launch} {G : GG} {M : MM} {σ : Sg} (hS : Sm M 0 σ) (hW : Wf σ) {p ln : Nat} (hp : p < 4) (hln : ln ≤ 4) : Ct l G yX6_pairsWith wsX6_pairsWith 5 ([.ref (G.2.2 84), .int (nI p), .int (oI ln)] : List Value) M (rI (nI (prW σ p ln)) M) := by
  refine Ct.of (cc := cX6_pairsWith) (maxL := 5) (ret := (some .int)) (lv := [(0, .ref (G.2.2 84)), (1, .int (nI p)), (2, .int (oI ln))]) (by decide) rfl rfl (Nat.le_of_ble_eq_true rfl) ?_
  intro pg ev sg mm bl mt cd AZ C hret
  refine j_iconst C dX6_pairsWith_0 (v := nI 0) (by decide) ?_
  refine j_istore_n C dX6_pairsWith_1 (by decide) ?_
  refine j_iconst C dX6_pairsWith_2 (v := nI 0) (by decide) ?_
  refine j_istore C dX6_pairsWith_3 (by decide) ?_
  have L5 : ∀ k, k ≤ 64 → ∀ acc, acc = cntN k (prF σ p ln) → J G pg l ev (rmD 5) sg mm ([.ref (G.2.2 84), .int (nI p), .int (oI ln)] : List Value).toArray bl mt cd AZ 5 (MQ bl (QQ G (rI (nI (prW σ p ln)) M) AZ) ([.ref (G.2.2 84), .int (nI p), .int (oI ln)] : List Value).toArray sg 0 0 AZ) 0 0 5 [(0, .ref (G.2.2 84)), (1, .int (nI p)), (2, .int (oI ln)), (3, .int (nI acc)), (4, .int (nI k))] [] (M) := by
    refine dnto ?_
    intro k hk5 ih5 acc ha
    refine j_iload C dX6_pairsWith_5 rfl ?_
    refine j_bipush C dX6_pairsWith_7 (v := nI 64) (by decide) ?_
    refine j_icmp_geN C dX6_pairsWith_9 (tgt := 58) (by decide) (by omega) (by omega) (fun cq9 => ?_) (fun cq9 => ?_)
    · refine j_iload_n C dX6_pairsWith_58 rfl ?_
      exact j_ireturn C hret dX6_pairsWith_59 ⟨congrArg (fun z => some (Value.int (nI z))) (by rw [ha, show k = 64 by omega]; rfl), rfl⟩
    · refine j_iload_n C dX6_pairsWith_12 rfl ?_
      refine j_iload C dX6_pairsWith_13 rfl ?_
      refine j_bipush C dX6_pairsWith_15 (v := nI 8) (by decide) ?_
      refine j_idivN C dX6_pairsWith_17 (by omega) (by decide) (by decide) ?_
      refine j_iload C dX6_pairsWith_18 rfl ?_
      refine j_bipush C dX6_pairsWith_20 (v := nI 8) (by decide) ?_
      refine j_iremN C dX6_pairsWith_22 (by omega) (by decide) (by decide) ?_
      refine j_icmp_geN C dX6_pairsWith_23 (tgt := 49) (by decide) (by omega) (by omega) (fun cq23 => ?_) (fun cq23 => ?_)
      · refine j_iconst C dX6_pairsWith_49 (v := nI 0) (by decide) ?_
        refine j_iaddN C dX6_pairsWith_50 ?_
        refine j_istore_n C dX6_pairsWith_51 (by decide) ?_
        refine j_iincN C dX6_pairsWith_52 rfl (by decide) ?_
        refine j_goto C dX6_pairsWith_55 (tgt := 5) (by decide) ?_
        exact ih5 (by omega) _ (by first | exact cnt_t ha (prF_t cq23 cq42) | exact cnt_f ha (prF_f1 cq23) | exact cnt_f ha (prF_f2 cq42))
      · refine j_aload_n C dX6_pairsWith_26 rfl ?_
        refine j_iload_n C dX6_pairsWith_27 rfl ?_
        refine j_iload_n C dX6_pairsWith_28 rfl ?_
        refine j_iload C dX6_pairsWith_29 rfl ?_
        refine j_bipush C dX6_pairsWith_31 (v := nI 8) (by decide) ?_
        refine j_idivN C dX6_pairsWith_33 (by omega) (by decide) (by decide) ?_
        refine j_iload C dX6_pairsWith_34 rfl ?_
        refine j_bipush C dX6_pairsWith_36 (v := nI 8) (by decide) ?_
        refine j_iremN C dX6_pairsWith_38 (by omega) (by decide) (by decide) ?_
        refine j_callV C (cm_areApartWith hS hW (by omega) (by omega) (by omega) (by omega)) dX6_pairsWith_39 rfl (by decide) (T := TX6) rfl gX6_pairsWith_X6_areApartWith rfl kd_X6_areApartWith rfl rfl (Nat.le_of_ble_eq_true rfl) ⟨by decide, by decide⟩ ⟨Nat.zero_le _, Nat.zero_le _⟩ (k_I ?_)
        refine j_if_eqB C dX6_pairsWith_42 (tgt := 49) (by decide) (fun cq42 => ?_) (fun cq42 => ?_)
        · refine j_iconst C dX6_pairsWith_49 (v := nI 0) (by decide) ?_
          refine j_iaddN C dX6_pairsWith_50 ?_
          refine j_istore_n C dX6_pairsWith_51 (by decide) ?_
          refine j_iincN C dX6_pairsWith_52 rfl (by decide) ?_
          refine j_goto C dX6_pairsWith_55 (tgt := 5) (by decide) ?_
          exact ih5 (by omega) _ (by first | exact cnt_t ha (prF_t cq23 cq42) | exact cnt_f ha (prF_f1 cq23) | exact cnt_f ha (prF_f2 cq42))
        · refine j_iconst C dX6_pairsWith_45 (v := nI 1) (by decide) ?_
          refine j_goto C dX6_pairsWith_46 (tgt := 50) (by decide) ?_
          refine j_iaddN C dX6_pairsWith_50 ?_
          refine j_istore_n C dX6_pairsWith_51 (by decide) ?_
          refine j_iincN C dX6_pairsWith_52 rfl (by decide) ?_
          refine j_goto C dX6_pairsWith_55 (tgt := 5) (by decide) ?_
          exact ih5 (by omega) _ (by first | exact cnt_t ha (prF_t cq23 cq42) | exact cnt_f ha (prF_f1 cq23) | exact cnt_f ha (prF_f2 cq42))
  exact L5 0 (by omega) 0 rfl

set_option maxHeartbeats 4000000 in
set_option maxRecDepth 100000 in
theorem cm_pairs {l : Launch} {G : GG} {M : MM} {σ : Sg} (hS : Sm M 0 σ) (hW : Wf σ) {p : Nat} (hp : p < 4) : Ct l G yX6_pairs wsX6_pairs 6 ([.ref (G.2.2 84), .int (nI p)] : List Value) M (rI (nI (pr σ p)) M) := by
  obtain ⟨hk, hs, hl⟩ := hW.2.1 p hp
  refine Ct.of (cc := cX6_pairs) (maxL := 2) (ret := (some .int)) (lv := [(0, .ref (G.2.2 84)), (1, .int (nI p))]) (by decide) rfl rfl (Nat.le_of_ble_eq_true rfl) ?_
  intro pg ev sg mm bl mt cd AZ C hret
  refine j_aload_n C dX6_pairs_0 rfl ?_
  refine j_iload_n C dX6_pairs_1 rfl ?_
  refine j_aload_n C dX6_pairs_2 rfl ?_
  refine j_getf C dX6_pairs_3 rfl (by decide) (T := TX6) rfl in_X6_pairs_X6 (k := 0) (by decide) fl_X6_pairs_7 rfl rfl ?_
  refine j_iload_n C dX6_pairs_6 rfl ?_
  refine j_callS C cm_at dX6_pairs_7 gX6_pairs_X6_at rfl ks_X6_at rfl rfl (Nat.le_of_ble_eq_true rfl) ⟨by decide, by decide⟩ ⟨Nat.zero_le _, Nat.zero_le _⟩ (k_I ?_)
  refine j_iconst C dX6_pairs_10 (v := nI 2) (by decide) ?_
  refine j_iaddN C dX6_pairs_11 ?_
  refine j_ialdN C dX6_pairs_12 (show ilen 85 = some 531 from rfl) (by omega) (by decide) ?_
  refine j_top C _ (m_ln hS (by omega)) ?_
  refine j_callV C (cm_pairsWith hS hW (by omega) (by omega)) dX6_pairs_13 rfl (by decide) (T := TX6) rfl gX6_pairs_X6_pairsWith rfl kd_X6_pairsWith rfl rfl (Nat.le_of_ble_eq_true rfl) ⟨by decide, by decide⟩ ⟨Nat.zero_le _, Nat.zero_le _⟩ (k_I ?_)
  exact j_ireturn C hret dX6_pairs_16 ⟨rfl, rfl⟩
