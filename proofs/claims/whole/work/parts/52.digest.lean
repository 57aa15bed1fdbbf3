set_option maxRecDepth 20000 in
theorem cst_X5_bitsOfShare_292 : Cond.constantLong RX5 292 (1023) ∈ wsX5_bitsOfShare := by decide +kernel
set_option maxRecDepth 20000 in
theorem cst_X5_bitsOfShare_296 : Cond.constantDouble RX5 296 (4841369599423283200) ∈ wsX5_bitsOfShare := by decide +kernel
set_option maxRecDepth 20000 in
theorem cst_X5_bitsOfShare_294 : Cond.constantDouble RX5 294 (4611686018427387904) ∈ wsX5_bitsOfShare := by decide +kernel
set_option maxRecDepth 20000 in
theorem dtl_0 : Cond.methodLink RJxe99ae 134 ⟨"java/lang/Double", "doubleToRawLongBits", "(D)J"⟩ ∈ wsJxe99ae_doubleToLongBits_ccdee := by decide +kernel
set_option maxRecDepth 20000 in
theorem dtl_1 : Cond.native ⟨"java/lang/Double", "doubleToRawLongBits", "(D)J"⟩ ∈ wsJxe99ae_doubleToLongBits_ccdee := by decide +kernel
set_option maxRecDepth 20000 in
theorem dtl_2 : Cond.static ⟨"java/lang/Double", "doubleToRawLongBits", "(D)J"⟩ ∈ wsJxe99ae_doubleToLongBits_ccdee := by decide +kernel
set_option maxRecDepth 20000 in
theorem dtl_3 : Cond.initialized "java/lang/Double" ∈ wsJxe99ae_doubleToLongBits_ccdee := by decide +kernel
set_option maxRecDepth 20000 in
theorem ks_Jxe99ae_isNaN_b9ae7 : yJxe99ae_isNaN_b9ae7.cls ≠ "java/lang/invoke/MethodHandle" ∧ yJxe99ae_isNaN_b9ae7.cls ≠ "java/lang/invoke/VarHandle" ∧ (parseMethodDescriptor yJxe99ae_isNaN_b9ae7.desc).map (fun d => d.parameters.length) = some 1 := by decide +kernel
set_option maxRecDepth 20000 in
theorem cst_X5_digest_233 : Cond.constantLong RX5 233 (3677) ∈ wsX5_digest := by decide +kernel
set_option maxRecDepth 20000 in
theorem kd_X5_hashOfPots : yX5_hashOfPots.cls = RX5 ∧ yX5_hashOfPots.cls ≠ "java/lang/invoke/MethodHandle" ∧ yX5_hashOfPots.cls ≠ "java/lang/invoke/VarHandle" ∧ (parseMethodDescriptor yX5_hashOfPots.desc).map (fun d => d.parameters.length) = some 1 := by decide +kernel
set_option maxRecDepth 20000 in
theorem kd_X5_hashOfPainters : yX5_hashOfPainters.cls = RX5 ∧ yX5_hashOfPainters.cls ≠ "java/lang/invoke/MethodHandle" ∧ yX5_hashOfPainters.cls ≠ "java/lang/invoke/VarHandle" ∧ (parseMethodDescriptor yX5_hashOfPainters.desc).map (fun d => d.parameters.length) = some 1 := by decide +kernel
set_option maxRecDepth 20000 in
theorem kd_X5_hashOfCharts : yX5_hashOfCharts.cls = RX5 ∧ yX5_hashOfCharts.cls ≠ "java/lang/invoke/MethodHandle" ∧ yX5_hashOfCharts.cls ≠ "java/lang/invoke/VarHandle" ∧ (parseMethodDescriptor yX5_hashOfCharts.desc).map (fun d => d.parameters.length) = some 1 := by decide +kernel
set_option maxRecDepth 20000 in
theorem kd_X5_bestPainter : yX5_bestPainter.cls = RX5 ∧ yX5_bestPainter.cls ≠ "java/lang/invoke/MethodHandle" ∧ yX5_bestPainter.cls ≠ "java/lang/invoke/VarHandle" ∧ (parseMethodDescriptor yX5_bestPainter.desc).map (fun d => d.parameters.length) = some 0 := by decide +kernel
set_option maxRecDepth 20000 in
theorem kd_X5_apartShare : yX5_apartShare.cls = RX5 ∧ yX5_apartShare.cls ≠ "java/lang/invoke/MethodHandle" ∧ yX5_apartShare.cls ≠ "java/lang/invoke/VarHandle" ∧ (parseMethodDescriptor yX5_apartShare.desc).map (fun d => d.parameters.length) = some 0 := by decide +kernel
set_option maxRecDepth 20000 in
theorem ks_X5_bitsOfShare : yX5_bitsOfShare.cls ≠ "java/lang/invoke/MethodHandle" ∧ yX5_bitsOfShare.cls ≠ "java/lang/invoke/VarHandle" ∧ (parseMethodDescriptor yX5_bitsOfShare.desc).map (fun d => d.parameters.length) = some 1 := by decide +kernel
set_option maxRecDepth 20000 in
theorem kd_X5_hashOfText : yX5_hashOfText.cls = RX5 ∧ yX5_hashOfText.cls ≠ "java/lang/invoke/MethodHandle" ∧ yX5_hashOfText.cls ≠ "java/lang/invoke/VarHandle" ∧ (parseMethodDescriptor yX5_hashOfText.desc).map (fun d => d.parameters.length) = some 1 := by decide +kernel
set_option maxRecDepth 20000 in
theorem in_X5_digest_X5 : ∀ w ∈ wsX50, w ∈ wsX5_digest := by decide +kernel
set_option maxRecDepth 20000 in
theorem fl_X5_digest_19 : Cond.fieldLink RX5 19 "PotLabels" "memory" "LPotLabels$Memory;" ∈ wsX5_digest := by decide +kernel
set_option maxRecDepth 20000 in
theorem in_X5_digest_X3 : ∀ w ∈ wsX30, w ∈ wsX5_digest := by decide +kernel
set_option maxRecDepth 20000 in
theorem kd_X5_count : yX5_count.cls = RX5 ∧ yX5_count.cls ≠ "java/lang/invoke/MethodHandle" ∧ yX5_count.cls ≠ "java/lang/invoke/VarHandle" ∧ (parseMethodDescriptor yX5_count.desc).map (fun d => d.parameters.length) = some 1 := by decide +kernel
set_option maxRecDepth 20000 in
theorem cst_X6_digest_194 : Cond.constantLong RX6 194 (3677) ∈ wsX6_digest := by decide +kernel
set_option maxRecDepth 20000 in
theorem in_X6_digest_X6 : ∀ w ∈ wsX60, w ∈ wsX6_digest := by decide +kernel
set_option maxRecDepth 20000 in
theorem fl_X6_digest_7 : Cond.fieldLink RX6 7 "PotLabelsModel" "s" "[I" ∈ wsX6_digest := by decide +kernel
set_option maxRecDepth 20000 in
theorem cst_X6_digest_192 : Cond.constantLong RX6 192 (31) ∈ wsX6_digest := by decide +kernel
set_option maxRecDepth 20000 in
theorem kd_X6_apartShare : yX6_apartShare.cls = RX6 ∧ yX6_apartShare.cls ≠ "java/lang/invoke/MethodHandle" ∧ yX6_apartShare.cls ≠ "java/lang/invoke/VarHandle" ∧ (parseMethodDescriptor yX6_apartShare.desc).map (fun d => d.parameters.length) = some 0 := by decide +kernel
set_option maxRecDepth 20000 in
theorem ks_Jxe99ae_doubleToLongBits_ccdee : yJxe99ae_doubleToLongBits_ccdee.cls ≠ "java/lang/invoke/MethodHandle" ∧ yJxe99ae_doubleToLongBits_ccdee.cls ≠ "java/lang/invoke/VarHandle" ∧ (parseMethodDescriptor yJxe99ae_doubleToLongBits_ccdee.desc).map (fun d => d.parameters.length) = some 1 := by decide +kernel
set_option maxRecDepth 20000 in
theorem fl_X6_digest_13 : Cond.fieldLink RX6 13 "PotLabelsModel" "isKept" "[Z" ∈ wsX6_digest := by decide +kernel
set_option maxRecDepth 20000 in
theorem fl_X6_digest_127 : Cond.fieldLink RX6 127 "PotLabelsModel" "typed" "I" ∈ wsX6_digest := by decide +kernel
set_option maxRecDepth 20000 in
theorem fl_X6_digest_17 : Cond.fieldLink RX6 17 "PotLabelsModel" "buffer" "[C" ∈ wsX6_digest := by decide +kernel
set_option maxRecDepth 20000 in
theorem kd_X6_mixedOf : yX6_mixedOf.cls = RX6 ∧ yX6_mixedOf.cls ≠ "java/lang/invoke/MethodHandle" ∧ yX6_mixedOf.cls ≠ "java/lang/invoke/VarHandle" ∧ (parseMethodDescriptor yX6_mixedOf.desc).map (fun d => d.parameters.length) = some 2 := by decide +kernel
section JD
variable {G : GG} {p : Program} {l : Launch} {e : Env} {R : Room} {s : State} {m : MethodId} {args : Array Value} {below : List Frame} {meth : Method} {c : Code} {A : Nat → Prop} {nL : Nat} {Q : State → Prop} {k9 n9 pc : Nat} {lv : List (Nat × Value)} {st : List Value} {M : MM} {cc : ByteArray} {own : String} {Ts : List Cond}
theorem k_DQ {r : UInt64} {P : MM → Prop} {rest : List Value} {pc1 : Nat} (k : ∀ M' : MM, P M' → J G p l e R s m args below meth c A nL Q k9 n9 pc1 lv (.double r :: rest) M') : ∀ (v : Option Value) (M' : MM), (v = some (.double r) ∧ P M') → J G p l e R s m args below meth c A nL Q k9 n9 pc1 lv (v.toList ++ rest) M' := by
  rintro v M' ⟨rfl, h⟩; exact k M' h
theorem j_d2raw (C : Cx G p s m args meth c A cc nL own Ts) {index : Nat} {b : UInt64} (hd : decode cc pc = .ok (.invokestatic index, 3)) (h1 : Cond.methodLink own index ⟨"java/lang/Double", "doubleToRawLongBits", "(D)J"⟩ ∈ Ts) (h2 : Cond.native ⟨"java/lang/Double", "doubleToRawLongBits", "(D)J"⟩ ∈ Ts) (h3 : Cond.static ⟨"java/lang/Double", "doubleToRawLongBits", "(D)J"⟩ ∈ Ts) (h4 : Cond.initialized "java/lang/Double" ∈ Ts) (hf : 1 ≤ R.frames) (hl : (st.map fun v => v.category).sum + 15 ≤ R.locals)
    (k : J G p l e R s m args below meth c A nL Q k9 n9 (pc + 3) lv (.long b.toInt64 :: st) M)
    : J G p l e R s m args below meth c A nL Q k9 n9 pc lv (.double b :: st) M := by
  intro H locs ls hP hS hv
  exact vn_d2l C.1 C.2.1 (C.2.2.1.trans hv.1.symm) C.2.2.2.1 (C.w h1) (C.w h2) (C.w h3) (C.w h4) hf hl hd (k H locs ls hP hS hv)
end JD
theorem sh_eq {n : Nat} (h : n < 113) : Op.cmpValue (FP.dcmp (shN n) (shN n)) .l = 0 := by
  have q : ∀ n, n < 113 → Op.cmpValue (FP.dcmp (shN n) (shN n)) .l = 0 := by decide +kernel
  exact q n h
theorem bs_0 : ¬ 0 < Op.cmpValue (FP.dcmp (shN 0) FP.dconst0) .g := by decide +kernel
theorem bs_0r : (0 : Int64) = (shN 0).toInt64 := by decide +kernel
def fCn (S : SS) : Nat → Int64 := fun k => (cnt8 S k).toInt64
def fFl (S : SS) : Nat → Int64 := fun t => (bI (S.2.2.2.2.1 t)).toInt64
theorem fFl_1 {S : SS} {t : Nat} (h : S.2.2.2.2.1 t = true) : fFl S t = 1 := by unfold fFl; rw [h]; decide
theorem fFl_0 {S : SS} {t : Nat} (h : S.2.2.2.2.1 t = false) : fFl S t = 0 := by unfold fFl; rw [h]; decide
theorem fFl_m1 {S : SS} {t : Nat} (h : S.2.2.2.2.1 t = true) : fFl S t = (nI 1).toInt64 := by unfold fFl; rw [h]; rfl
theorem fFl_m0 {S : SS} {t : Nat} (h : S.2.2.2.2.1 t = false) : fFl S t = (nI 0).toInt64 := by unfold fFl; rw [h]; rfl
/-- the digest of a state; cf the fewest labels of the painters, az and bz the least changes -/
def dgS (S : SS) (cf : Nat → Nat) (az bz : Nat → Nat × Nat) : Int64 := hN (fTx S.2.2.2.2.2.2) (hx (hN (fFl S) (hx (hx (hN (fCh S.1) (hPs S.1 cf az bz (hN (fPo S.1) (hN (fCn S) 3677 8) 40) 4) (3 * S.1 44)) (nI (bst S.1)).toInt64) (shr S.1).toInt64) 2) (nI S.2.2.2.2.2.1).toInt64) S.2.2.2.2.2.1

set_option maxHeartbeats 4000000 in
set_option maxRecDepth 100000 in
theorem ct_bits_0 {l : Launch} {G : GG} {M : MM}  : Ct l G yX5_bitsOfShare wsX5_bitsOfShare 1 ([.double (shN 0)] : List Value) M (rL ((shN 0).toInt64) M) := by
  refine Ct.of (cc := cX5_bitsOfShare) (maxL := 7) (ret := (some .long)) (lv := [(0, .double (shN 0))]) (by decide) rfl rfl (Nat.le_of_ble_eq_true rfl) ?_
  intro pg ev sg mm bl mt cd AZ C hret
  refine j_dload_n C dX5_bitsOfShare_0 rfl ?_
  refine j_dconst0 C dX5_bitsOfShare_1 ?_
  refine j_dcmp C dX5_bitsOfShare_2 ?_
  refine j_if_gt C dX5_bitsOfShare_3 (tgt := 8) (by decide) (fun cq3 => absurd cq3 (bs_0)) (fun cq3 => ?_)
  refine j_lconst C dX5_bitsOfShare_6 (v := 0) (by decide) ?_
  exact j_lreturn C hret dX5_bitsOfShare_7 ⟨congrArg (fun z => some (Value.long z)) bs_0r, rfl⟩

set_option maxHeartbeats 4000000 in
set_option maxRecDepth 100000 in
theorem ct_bits_p {l : Launch} {G : GG} {M : MM} {n : Nat} (hn : n < 113) (h0 : 0 < n) : Ct l G yX5_bitsOfShare wsX5_bitsOfShare 1 ([.double (shN n)] : List Value) M (rL ((shN n).toInt64) M) := by
  refine Ct.of (cc := cX5_bitsOfShare) (maxL := 7) (ret := (some .long)) (lv := [(0, .double (shN n))]) (by decide) rfl rfl (Nat.le_of_ble_eq_true rfl) ?_
  intro pg ev sg mm bl mt cd AZ C hret
  refine j_dload_n C dX5_bitsOfShare_0 rfl ?_
  refine j_dconst0 C dX5_bitsOfShare_1 ?_
  refine j_dcmp C dX5_bitsOfShare_2 ?_
  refine j_if_gt C dX5_bitsOfShare_3 (tgt := 8) (by decide) (fun cq3 => ?_) (fun cq3 => absurd cq3 (not_not_intro (bs_pos hn h0)))
  refine j_dload_n C dX5_bitsOfShare_8 rfl ?_
  refine j_dstore_n C dX5_bitsOfShare_9 (by decide) ?_
  refine j_ldc2 C dX5_bitsOfShare_10 cst_X5_bitsOfShare_292 ?_
  refine j_lstore C dX5_bitsOfShare_13 (by decide) ?_
  refine j_iconst C dX5_bitsOfShare_15 (v := nI 0) (by decide) ?_
  refine j_istore C dX5_bitsOfShare_16 (by decide) ?_
  have L18 : ∀ k, k ≤ 8 → (k = 0 ∨ bc n (k - 1) < 0) → J G pg l ev (rmD 1) sg mm ([.double (shN n)] : List Value).toArray bl mt cd AZ 7 (MQ bl (QQ G (rL ((shN n).toInt64) M) AZ) ([.double (shN n)] : List Value).toArray sg 0 0 AZ) 0 0 18 [(0, .double (shN n)), (2, .double (bd n k)), (4, .long (be k)), (6, .int (nI k))] [] (M) := by
    refine dnto ?_
    intro k hk18 ih18 hin
    refine j_iload C dX5_bitsOfShare_18 rfl ?_
    refine j_sipush C dX5_bitsOfShare_20 (v := nI 1022) (by decide) ?_
    refine j_icmp_geN C dX5_bitsOfShare_23 (tgt := 50) (by decide) (by omega) (by omega) (fun cq23 => absurd cq23 (by omega)) (fun cq23 => ?_)
    refine j_dload_n C dX5_bitsOfShare_26 rfl ?_
    refine j_dconst1 C dX5_bitsOfShare_27 ?_
    refine j_dcmp C dX5_bitsOfShare_28 ?_
    refine j_if_ge C dX5_bitsOfShare_29 (tgt := 50) (by decide) (fun cq29 => ?_) (fun cq29 => ?_)
    · refine j_lload C dX5_bitsOfShare_50 rfl ?_
      refine j_bipush C dX5_bitsOfShare_52 (v := nI 52) (by decide) ?_
      refine j_lshl C dX5_bitsOfShare_54 ?_
      refine j_dload_n C dX5_bitsOfShare_55 rfl ?_
      refine j_dconst1 C dX5_bitsOfShare_56 ?_
      refine j_dsub C dX5_bitsOfShare_57 ((bs_nan hn (by omega)).2.1) ?_
      refine j_ldc2d C dX5_bitsOfShare_58 cst_X5_bitsOfShare_296 ?_
      refine j_dmul C dX5_bitsOfShare_61 ((bs_nan hn (by omega)).2.2) ?_
      refine j_d2l C dX5_bitsOfShare_62 ?_
      refine j_ladd C dX5_bitsOfShare_63 ?_
      exact j_lreturn C hret dX5_bitsOfShare_64 ⟨congrArg (fun z => some (Value.long z)) (bs_fin hn h0 (by omega) (Int32.not_lt.mpr cq29) hin), rfl⟩
    · refine j_dload_n C dX5_bitsOfShare_32 rfl ?_
      refine j_ldc2d C dX5_bitsOfShare_33 cst_X5_bitsOfShare_294 ?_
      refine j_dmul C dX5_bitsOfShare_36 ((bs_nan hn (by omega)).1) ?_
      refine j_dstore_n C dX5_bitsOfShare_37 (by decide) ?_
      refine j_lload C dX5_bitsOfShare_38 rfl ?_
      refine j_lconst C dX5_bitsOfShare_40 (v := 1) (by decide) ?_
      refine j_lsub C dX5_bitsOfShare_41 ?_
      refine j_lstore C dX5_bitsOfShare_42 (by decide) ?_
      refine j_iincN C dX5_bitsOfShare_44 rfl (by decide) ?_
      refine j_goto C dX5_bitsOfShare_47 (tgt := 18) (by decide) ?_
      have hc : bc n k < 0 := Int32.not_le.mp cq29
      have hk8 : k ≠ 8 := fun e => bs_8 hn h0 (e ▸ hc)
      exact ih18 (by omega) (Or.inr hc)
  exact L18 0 (by omega) (Or.inl rfl)

theorem ct_bitsOfShare {l : Launch} {G : GG} {M : MM} {n : Nat} (hn : n < 113) : Ct l G yX5_bitsOfShare wsX5_bitsOfShare 1 [.double (shN n)] M (rL ((shN n).toInt64) M) := by
  rcases Nat.eq_zero_or_pos n with rfl | h0
  · exact ct_bits_0
  · exact ct_bits_p hn h0

set_option maxHeartbeats 4000000 in
set_option maxRecDepth 100000 in
theorem ct_isNaN {l : Launch} {G : GG} {M : MM} {n : Nat} (hn : n < 113) : Ct l G yJxe99ae_isNaN_b9ae7 wsJxe99ae_isNaN_b9ae7 1 ([.double (shN n)] : List Value) M (rI (bI false) M) := by
  refine Ct.of (cc := cJxe99ae_isNaN_b9ae7) (maxL := 2) (ret := (some .boolean)) (lv := [(0, .double (shN n))]) (by decide) rfl rfl (Nat.le_of_ble_eq_true rfl) ?_
  intro pg ev sg mm bl mt cd AZ C hret
  refine j_dload_n C dJxe99ae_isNaN_b9ae7_0 rfl ?_
  refine j_dload_n C dJxe99ae_isNaN_b9ae7_1 rfl ?_
  refine j_dcmp C dJxe99ae_isNaN_b9ae7_2 ?_
  refine j_if_eq C dJxe99ae_isNaN_b9ae7_3 (tgt := 10) (by decide) (fun cq3 => ?_) (fun cq3 => absurd cq3 (not_not_intro (sh_eq hn)))
  refine j_iconst C dJxe99ae_isNaN_b9ae7_10 (v := nI 0) (by decide) ?_
  refine j_top C (bI false) rfl ?_
  exact j_zreturn C hret dJxe99ae_isNaN_b9ae7_11 ⟨rfl, rfl⟩

set_option maxHeartbeats 4000000 in
set_option maxRecDepth 100000 in
theorem ct_dtlb {l : Launch} {G : GG} {M : MM} {n : Nat} (hn : n < 113) : Ct l G yJxe99ae_doubleToLongBits_ccdee wsJxe99ae_doubleToLongBits_ccdee 2 ([.double (shN n)] : List Value) M (rL ((shN n).toInt64) M) := by
  refine Ct.of (cc := cJxe99ae_doubleToLongBits_ccdee) (maxL := 2) (ret := (some .long)) (lv := [(0, .double (shN n))]) (by decide) rfl rfl (Nat.le_of_ble_eq_true rfl) ?_
  intro pg ev sg mm bl mt cd AZ C hret
  refine j_dload_n C dJxe99ae_doubleToLongBits_ccdee_0 rfl ?_
  refine j_callS C (ct_isNaN hn) dJxe99ae_doubleToLongBits_ccdee_1 gJxe99ae_doubleToLongBits_ccdee_Jxe99ae_isNaN_b9ae7 rfl ks_Jxe99ae_isNaN_b9ae7 rfl rfl (Nat.le_of_ble_eq_true rfl) ⟨by decide, by decide⟩ ⟨Nat.zero_le _, Nat.zero_le _⟩ (k_I ?_)
  refine j_if_neB C dJxe99ae_doubleToLongBits_ccdee_4 (tgt := 12) (by decide) (fun cq4 => absurd cq4 (by decide)) (fun cq4 => ?_)
  refine j_dload_n C dJxe99ae_doubleToLongBits_ccdee_7 rfl ?_
  refine j_d2raw C dJxe99ae_doubleToLongBits_ccdee_8 dtl_0 dtl_1 dtl_2 dtl_3 (by decide) (Nat.le_of_ble_eq_true rfl) ?_
  exact j_lreturn C hret dJxe99ae_doubleToLongBits_ccdee_11 ⟨rfl, rfl⟩

set_option maxHeartbeats 4000000 in
set_option maxRecDepth 100000 in
theorem ct_digest {l : Launch} {G : GG} {M : MM} {S : SS} (hX : Xc M S) (hO : OkS S) {cf : Nat → Nat} (hcf : ∀ p, p < 4 → Chi (ap S.1 p) (fun _ => true) (cf p)) {az bz : Nat → Nat × Nat} (haz : ∀ p, p < 4 → az p = nst S.1 p 0 7 1000) (hbz : ∀ p, p < 4 → bz p = nst S.1 p 7 0 1000)  : Ct l G yX5_digest wsX5_digest 13 ([.ref (G.2.2 72)] : List Value) M (fun v9 M9 => v9 = some (.long (dgS S cf az bz)) ∧ Xc M9 S ∧ Of M M9 inX) := by
  have hB := hX.1
  have hW := hO.1
  refine Ct.of (cc := cX5_digest) (maxL := 4) (ret := (some .long)) (lv := [(0, .ref (G.2.2 72))]) (by decide) rfl rfl (Nat.le_of_ble_eq_true rfl) ?_
  intro pg ev sg mm bl mt cd AZ C hret
  refine j_ldc2 C dX5_digest_0 cst_X5_digest_233 ?_
  refine j_lstore_n C dX5_digest_3 (by decide) ?_
  refine j_iconst C dX5_digest_4 (v := nI 0) (by decide) ?_
  refine j_istore_n C dX5_digest_5 (by decide) ?_
  have L6 : ∀ k, k ≤ 8 → J G pg l ev (rmD 13) sg mm ([.ref (G.2.2 72)] : List Value).toArray bl mt cd AZ 4 (MQ bl (QQ G (fun v9 M9 => v9 = some (.long (dgS S cf az bz)) ∧ Xc M9 S ∧ Of M M9 inX) AZ) ([.ref (G.2.2 72)] : List Value).toArray sg 0 0 AZ) 0 0 6 [(0, .ref (G.2.2 72)), (1, .long (hN (fCn S) 3677 k)), (3, .int (nI k))] [] (M) := by
    refine dnto ?_
    intro k hk6 ih6
    refine j_iload_n C dX5_digest_6 rfl ?_
    refine j_bipush C dX5_digest_7 (v := nI 7) (by decide) ?_
    refine j_icmp_gtN C dX5_digest_9 (tgt := 29) (by decide) (by omega) (by omega) (fun cq9 => ?_) (fun cq9 => ?_)
    · have e8 : k = 8 := by omega
      subst e8
      refine j_aload_n C dX5_digest_29 rfl ?_
      refine j_lload_n C dX5_digest_30 rfl ?_
      refine j_callV C (ct_hashOfPots hX hO) dX5_digest_31 rfl (by decide) (T := TX5) rfl gX5_digest_X5_hashOfPots rfl kd_X5_hashOfPots rfl rfl (Nat.le_of_ble_eq_true rfl) ⟨by decide, by decide⟩ ⟨Nat.zero_le _, Nat.zero_le _⟩ (k_L ?_)
      refine j_lstore_n C dX5_digest_34 (by decide) ?_
      refine j_aload_n C dX5_digest_35 rfl ?_
      refine j_lload_n C dX5_digest_36 rfl ?_
      refine j_callV C (ct_hashOfPainters hX hO hcf haz hbz) dX5_digest_37 rfl (by decide) (T := TX5) rfl gX5_digest_X5_hashOfPainters rfl kd_X5_hashOfPainters rfl rfl (Nat.le_of_ble_eq_true rfl) ⟨by decide, by decide⟩ ⟨Nat.zero_le _, Nat.zero_le _⟩ (k_LQ fun M3 hq => ?_)
      obtain ⟨hX3, ho3⟩ := hq
      refine j_lstore_n C dX5_digest_40 (by decide) ?_
      refine j_aload_n C dX5_digest_41 rfl ?_
      refine j_lload_n C dX5_digest_42 rfl ?_
      refine j_callV C (ct_hashOfCharts hX3 hO) dX5_digest_43 rfl (by decide) (T := TX5) rfl gX5_digest_X5_hashOfCharts rfl kd_X5_hashOfCharts rfl rfl (Nat.le_of_ble_eq_true rfl) ⟨by decide, by decide⟩ ⟨Nat.zero_le _, Nat.zero_le _⟩ (k_L ?_)
      refine j_lstore_n C dX5_digest_46 (by decide) ?_
      refine j_lload_n C dX5_digest_47 rfl ?_
      refine j_aload_n C dX5_digest_48 rfl ?_
      refine j_callV C (ct_bestPainter hX3 hO) dX5_digest_49 rfl (by decide) (T := TX5) rfl gX5_digest_X5_bestPainter rfl kd_X5_bestPainter rfl rfl (Nat.le_of_ble_eq_true rfl) ⟨by decide, by decide⟩ ⟨Nat.zero_le _, Nat.zero_le _⟩ (k_I ?_)
      refine j_i2l C dX5_digest_52 ?_
      refine j_callS C ct_hashed dX5_digest_53 gX5_digest_X5_hashed rfl ks_X5_hashed rfl rfl (Nat.le_of_ble_eq_true rfl) ⟨by decide, by decide⟩ ⟨Nat.zero_le _, Nat.zero_le _⟩ (k_L ?_)
      refine j_lstore_n C dX5_digest_56 (by decide) ?_
      refine j_lload_n C dX5_digest_57 rfl ?_
      refine j_aload_n C dX5_digest_58 rfl ?_
      refine j_callV C (ct_apartShare hX3 hO) dX5_digest_59 rfl (by decide) (T := TX5) rfl gX5_digest_X5_apartShare rfl kd_X5_apartShare rfl rfl (Nat.le_of_ble_eq_true rfl) ⟨by decide, by decide⟩ ⟨Nat.zero_le _, Nat.zero_le _⟩ (k_D ?_)
      refine j_callS C (ct_bitsOfShare (Nat.lt_succ_of_le (sumP_112 S.1))) dX5_digest_62 gX5_digest_X5_bitsOfShare rfl ks_X5_bitsOfShare rfl rfl (Nat.le_of_ble_eq_true rfl) ⟨by decide, by decide⟩ ⟨Nat.zero_le _, Nat.zero_le _⟩ (k_L ?_)
      refine j_callS C ct_hashed dX5_digest_65 gX5_digest_X5_hashed rfl ks_X5_hashed rfl rfl (Nat.le_of_ble_eq_true rfl) ⟨by decide, by decide⟩ ⟨Nat.zero_le _, Nat.zero_le _⟩ (k_L ?_)
      refine j_lstore_n C dX5_digest_68 (by decide) ?_
      refine j_iconst C dX5_digest_69 (v := nI 0) (by decide) ?_
      refine j_istore_n C dX5_digest_70 (by decide) ?_
      have L71 : ∀ t, t ≤ 2 → J G pg l ev (rmD 13) sg mm ([.ref (G.2.2 72)] : List Value).toArray bl mt cd AZ 4 (MQ bl (QQ G (fun v9 M9 => v9 = some (.long (dgS S cf az bz)) ∧ Xc M9 S ∧ Of M M9 inX) AZ) ([.ref (G.2.2 72)] : List Value).toArray sg 0 0 AZ) 0 0 71 [(0, .ref (G.2.2 72)), (1, .long (hN (fFl S) (hx (hx (hN (fCh S.1) (hPs S.1 cf az bz (hN (fPo S.1) (hN (fCn S) 3677 8) 40) 4) (3 * S.1 44)) (nI (bst S.1)).toInt64) (shr S.1).toInt64) t)), (3, .int (nI t))] [] (M3) := by
        refine dnto ?_
        intro t ht71 ih71
        refine j_iload_n C dX5_digest_71 rfl ?_
        refine j_iconst C dX5_digest_72 (v := nI 2) (by decide) ?_
        refine j_icmp_geN C dX5_digest_73 (tgt := 104) (by decide) (by omega) (by omega) (fun cq73 => ?_) (fun cq73 => ?_)
        · have e2 : t = 2 := by omega
          subst e2
          refine j_aload_n C dX5_digest_104 rfl ?_
          refine j_lload_n C dX5_digest_105 rfl ?_
          refine j_callV C (ct_hashOfText hX3 hO) dX5_digest_106 rfl (by decide) (T := TX5) rfl gX5_digest_X5_hashOfText rfl kd_X5_hashOfText rfl rfl (Nat.le_of_ble_eq_true rfl) ⟨by decide, by decide⟩ ⟨Nat.zero_le _, Nat.zero_le _⟩ (k_L ?_)
          exact j_lreturn C hret dX5_digest_109 ⟨rfl, hX3, ho3⟩
        · refine j_lload_n C dX5_digest_76 rfl ?_
          refine j_aload_n C dX5_digest_77 rfl ?_
          refine j_getf C dX5_digest_78 rfl (by decide) (T := TX5) rfl in_X5_digest_X5 (k := 1) (by decide) fl_X5_digest_19 rfl rfl ?_
          refine j_getfN C dX5_digest_81 rfl (by decide) (T := TX3) rfl in_X5_digest_X3 (k := 1) (by decide) nl_X5_155 rfl rfl ?_
          refine j_iload_n C dX5_digest_84 rfl ?_
          refine j_zaldN C dX5_digest_85 rfl (by omega) (by decide) ?_
          refine j_top C _ (hX3.2.2.1 _ (by omega)) ?_
          refine j_if_eqB C dX5_digest_86 (tgt := 93) (by decide) (fun cq86 => ?_) (fun cq86 => ?_)
          · refine j_lconst C dX5_digest_93 (v := 0) (by decide) ?_
            refine j_callS C ct_hashed dX5_digest_94 gX5_digest_X5_hashed rfl ks_X5_hashed rfl rfl (Nat.le_of_ble_eq_true rfl) ⟨by decide, by decide⟩ ⟨Nat.zero_le _, Nat.zero_le _⟩ (k_L ?_)
            refine j_topl C (_) (hN_s (by first | exact fFl_0 cq86 | exact fFl_1 cq86)) ?_
            refine j_lstore_n C dX5_digest_97 (by decide) ?_
            refine j_iincN C dX5_digest_98 rfl (by decide) ?_
            refine j_goto C dX5_digest_101 (tgt := 71) (by decide) ?_
            exact ih71 (by omega)
          · refine j_lconst C dX5_digest_89 (v := 1) (by decide) ?_
            refine j_goto C dX5_digest_90 (tgt := 94) (by decide) ?_
            refine j_callS C ct_hashed dX5_digest_94 gX5_digest_X5_hashed rfl ks_X5_hashed rfl rfl (Nat.le_of_ble_eq_true rfl) ⟨by decide, by decide⟩ ⟨Nat.zero_le _, Nat.zero_le _⟩ (k_L ?_)
            refine j_topl C (_) (hN_s (by first | exact fFl_0 cq86 | exact fFl_1 cq86)) ?_
            refine j_lstore_n C dX5_digest_97 (by decide) ?_
            refine j_iincN C dX5_digest_98 rfl (by decide) ?_
            refine j_goto C dX5_digest_101 (tgt := 71) (by decide) ?_
            exact ih71 (by omega)
      exact L71 0 (by omega)
    · refine j_lload_n C dX5_digest_12 rfl ?_
      refine j_aload_n C dX5_digest_13 rfl ?_
      refine j_iload_n C dX5_digest_14 rfl ?_
      refine j_callV C (ct_count hX hO (by omega)) dX5_digest_15 rfl (by decide) (T := TX5) rfl gX5_digest_X5_count rfl kd_X5_count rfl rfl (Nat.le_of_ble_eq_true rfl) ⟨by decide, by decide⟩ ⟨Nat.zero_le _, Nat.zero_le _⟩ (k_I ?_)
      refine j_i2l C dX5_digest_18 ?_
      refine j_callS C ct_hashed dX5_digest_19 gX5_digest_X5_hashed rfl ks_X5_hashed rfl rfl (Nat.le_of_ble_eq_true rfl) ⟨by decide, by decide⟩ ⟨Nat.zero_le _, Nat.zero_le _⟩ (k_L ?_)
      refine j_topl C (_) (hN_s rfl) ?_
      refine j_lstore_n C dX5_digest_22 (by decide) ?_
      refine j_iincN C dX5_digest_23 rfl (by decide) ?_
      refine j_goto C dX5_digest_26 (tgt := 6) (by decide) ?_
      exact ih6 (by omega)
  exact L6 0 (by omega)

set_option maxHeartbeats 4000000 in
set_option maxRecDepth 100000 in
theorem cm_digest {l : Launch} {G : GG} {M : MM} {S : SS} (hX : Xm M S) (hO : OkS S) {cf : Nat → Nat} (hcf : ∀ p, p < 4 → Chi (ap S.1 p) (fun _ => true) (cf p)) {az bz : Nat → Nat × Nat} (haz : ∀ p, p < 4 → az p = nst S.1 p 0 7 1000) (hbz : ∀ p, p < 4 → bz p = nst S.1 p 7 0 1000)  : Ct l G yX6_digest wsX6_digest 11 ([.ref (G.2.2 84)] : List Value) M (fun v9 M9 => v9 = some (.long (dgS S cf az bz)) ∧ Xm M9 S ∧ Off M M9 inM) := by
  have hS := hX.1
  have hW := hO.1
  refine Ct.of (cc := cX6_digest) (maxL := 4) (ret := (some .long)) (lv := [(0, .ref (G.2.2 84))]) (by decide) rfl rfl (Nat.le_of_ble_eq_true rfl) ?_
  intro pg ev sg mm bl mt cd AZ C hret
  refine j_ldc2 C dX6_digest_0 cst_X6_digest_194 ?_
  refine j_lstore_n C dX6_digest_3 (by decide) ?_
  refine j_iconst C dX6_digest_4 (v := nI 0) (by decide) ?_
  refine j_istore_n C dX6_digest_5 (by decide) ?_
  have L6 : ∀ k, k ≤ 8 → J G pg l ev (rmD 11) sg mm ([.ref (G.2.2 84)] : List Value).toArray bl mt cd AZ 4 (MQ bl (QQ G (fun v9 M9 => v9 = some (.long (dgS S cf az bz)) ∧ Xm M9 S ∧ Off M M9 inM) AZ) ([.ref (G.2.2 84)] : List Value).toArray sg 0 0 AZ) 0 0 6 [(0, .ref (G.2.2 84)), (1, .long (hN (fCn S) 3677 k)), (3, .int (nI k))] [] (M) := by
    refine dnto ?_
    intro k hk6 ih6
    refine j_iload_n C dX6_digest_6 rfl ?_
    refine j_bipush C dX6_digest_7 (v := nI 8) (by decide) ?_
    refine j_icmp_geN C dX6_digest_9 (tgt := 31) (by decide) (by omega) (by omega) (fun cq9 => ?_) (fun cq9 => ?_)
    · have e8 : k = 8 := by omega
      subst e8
      refine j_iconst C dX6_digest_31 (v := nI 0) (by decide) ?_
      refine j_istore_n C dX6_digest_32 (by decide) ?_
      have L33 : ∀ k, k ≤ 40 → J G pg l ev (rmD 11) sg mm ([.ref (G.2.2 84)] : List Value).toArray bl mt cd AZ 4 (MQ bl (QQ G (fun v9 M9 => v9 = some (.long (dgS S cf az bz)) ∧ Xm M9 S ∧ Off M M9 inM) AZ) ([.ref (G.2.2 84)] : List Value).toArray sg 0 0 AZ) 0 0 33 [(0, .ref (G.2.2 84)), (1, .long (hN (fPo S.1) (hN (fCn S) 3677 8) k)), (3, .int (nI k))] [] (M) := by
        refine dnto ?_
        intro k hk33 ih33
        refine j_iload_n C dX6_digest_33 rfl ?_
        refine j_bipush C dX6_digest_34 (v := nI 40) (by decide) ?_
        refine j_icmp_geN C dX6_digest_36 (tgt := 63) (by decide) (by omega) (by omega) (fun cq36 => ?_) (fun cq36 => ?_)
        · have e40 : k = 40 := by omega
          subst e40
          refine j_iconst C dX6_digest_63 (v := nI 0) (by decide) ?_
          refine j_istore_n C dX6_digest_64 (by decide) ?_
          have L65 : ∀ p, p ≤ 4 → ∀ M2 : MM, Xm M2 S → Off M M2 inM → J G pg l ev (rmD 11) sg mm ([.ref (G.2.2 84)] : List Value).toArray bl mt cd AZ 4 (MQ bl (QQ G (fun v9 M9 => v9 = some (.long (dgS S cf az bz)) ∧ Xm M9 S ∧ Off M M9 inM) AZ) ([.ref (G.2.2 84)] : List Value).toArray sg 0 0 AZ) 0 0 65 [(0, .ref (G.2.2 84)), (1, .long (hPs S.1 cf az bz (hN (fPo S.1) (hN (fCn S) 3677 8) 40) p)), (3, .int (nI p))] [] (M2) := by
            refine dnto ?_
            intro p hp65 ih65 M2 hX2 ho2
            refine j_iload_n C dX6_digest_65 rfl ?_
            refine j_iconst C dX6_digest_66 (v := nI 4) (by decide) ?_
            refine j_icmp_geN C dX6_digest_67 (tgt := 83) (by decide) (by omega) (by omega) (fun cq67 => ?_) (fun cq67 => ?_)
            · have e4 : p = 4 := by omega
              subst e4
              have hS2 := hX2.1
              have h44 := hW.2.2.1
              refine j_iconst C dX6_digest_83 (v := nI 0) (by decide) ?_
              refine j_istore_n C dX6_digest_84 (by decide) ?_
              have L85 : ∀ k, k ≤ 3 * S.1 44 → J G pg l ev (rmD 11) sg mm ([.ref (G.2.2 84)] : List Value).toArray bl mt cd AZ 4 (MQ bl (QQ G (fun v9 M9 => v9 = some (.long (dgS S cf az bz)) ∧ Xm M9 S ∧ Off M M9 inM) AZ) ([.ref (G.2.2 84)] : List Value).toArray sg 0 0 AZ) 0 0 85 [(0, .ref (G.2.2 84)), (1, .long (hN (fCh S.1) (hPs S.1 cf az bz (hN (fPo S.1) (hN (fCn S) 3677 8) 40) 4) k)), (3, .int (nI k))] [] (M2) := by
                refine dnto ?_
                intro k hk85 ih85
                refine j_iload_n C dX6_digest_85 rfl ?_
                refine j_iconst C dX6_digest_86 (v := nI 3) (by decide) ?_
                refine j_aload_n C dX6_digest_87 rfl ?_
                refine j_getf C dX6_digest_88 rfl (by decide) (T := TX6) rfl in_X6_digest_X6 (k := 0) (by decide) fl_X6_digest_7 rfl rfl ?_
                refine j_bipush C dX6_digest_91 (v := nI 44) (by decide) ?_
                refine j_ialdN C dX6_digest_93 (show ilen 85 = some 531 from rfl) (by omega) (by decide) ?_
                refine j_top C _ (m_ch hS2) ?_
                refine j_imulN C dX6_digest_94 ?_
                refine j_icmp_geN C dX6_digest_95 (tgt := 122) (by decide) (by omega) (by omega) (fun cq95 => ?_) (fun cq95 => ?_)
                · have e9 : k = 3 * S.1 44 := by omega
                  subst e9
                  refine j_ldc2 C dX6_digest_122 cst_X6_digest_192 ?_
                  refine j_lload_n C dX6_digest_125 rfl ?_
                  refine j_lmul C dX6_digest_126 ?_
                  refine j_aload_n C dX6_digest_127 rfl ?_
                  refine j_callV C (cm_best hS2 hW) dX6_digest_128 rfl (by decide) (T := TX6) rfl gX6_digest_X6_best rfl kd_X6_best rfl rfl (Nat.le_of_ble_eq_true rfl) ⟨by decide, by decide⟩ ⟨Nat.zero_le _, Nat.zero_le _⟩ (k_I ?_)
                  refine j_i2l C dX6_digest_131 ?_
                  refine j_ladd C dX6_digest_132 ?_
                  refine j_topl C (_) hx_m ?_
                  refine j_lstore_n C dX6_digest_133 (by decide) ?_
                  refine j_ldc2 C dX6_digest_134 cst_X6_digest_192 ?_
                  refine j_lload_n C dX6_digest_137 rfl ?_
                  refine j_lmul C dX6_digest_138 ?_
                  refine j_aload_n C dX6_digest_139 rfl ?_
                  refine j_callV C (cm_apartShare hX2 hO) dX6_digest_140 rfl (by decide) (T := TX6) rfl gX6_digest_X6_apartShare rfl kd_X6_apartShare rfl rfl (Nat.le_of_ble_eq_true rfl) ⟨by decide, by decide⟩ ⟨Nat.zero_le _, Nat.zero_le _⟩ (k_DQ fun M4 hq => ?_)
                  obtain ⟨hX4, ho4, -⟩ := hq
                  have hn60 := hX4.2.2.2.2.1
                  refine j_callS C (ct_dtlb (Nat.lt_succ_of_le (sumP_112 S.1))) dX6_digest_143 gX6_digest_Jxe99ae_doubleToLongBits_ccdee rfl ks_Jxe99ae_doubleToLongBits_ccdee rfl rfl (Nat.le_of_ble_eq_true rfl) ⟨by decide, by decide⟩ ⟨Nat.zero_le _, Nat.zero_le _⟩ (k_L ?_)
                  refine j_ladd C dX6_digest_146 ?_
                  refine j_topl C (_) hx_m ?_
                  refine j_lstore_n C dX6_digest_147 (by decide) ?_
                  refine j_ldc2 C dX6_digest_148 cst_X6_digest_192 ?_
                  refine j_lload_n C dX6_digest_151 rfl ?_
                  refine j_lmul C dX6_digest_152 ?_
                  refine j_aload_n C dX6_digest_153 rfl ?_
                  refine j_getf C dX6_digest_154 rfl (by decide) (T := TX6) rfl in_X6_digest_X6 (k := 2) (by decide) fl_X6_digest_13 rfl rfl ?_
                  refine j_iconst C dX6_digest_157 (v := nI 0) (by decide) ?_
                  refine j_zaldN C dX6_digest_158 rfl (by omega) (by decide) ?_
                  refine j_top C _ (hX4.2.2.1 0 (by decide)) ?_
                  refine j_if_eqB C dX6_digest_159 (tgt := 166) (by decide) (fun cq159 => ?_) (fun cq159 => ?_)
                  · refine j_iconst C dX6_digest_166 (v := nI 0) (by decide) ?_
                    refine j_i2l C dX6_digest_167 ?_
                    refine j_ladd C dX6_digest_168 ?_
                    refine j_topl C ((hN (fFl S) (hx (hx (hN (fCh S.1) (hPs S.1 cf az bz (hN (fPo S.1) (hN (fCn S) 3677 8) 40) 4) (3 * S.1 44)) (nI (bst S.1)).toInt64) (shr S.1).toInt64) 1)) (hN_m (k := 0) (by first | exact fFl_m0 cq159 | exact fFl_m1 cq159)) ?_
                    refine j_lstore_n C dX6_digest_169 (by decide) ?_
                    refine j_ldc2 C dX6_digest_170 cst_X6_digest_192 ?_
                    refine j_lload_n C dX6_digest_173 rfl ?_
                    refine j_lmul C dX6_digest_174 ?_
                    refine j_aload_n C dX6_digest_175 rfl ?_
                    refine j_getf C dX6_digest_176 rfl (by decide) (T := TX6) rfl in_X6_digest_X6 (k := 2) (by decide) fl_X6_digest_13 rfl rfl ?_
                    refine j_iconst C dX6_digest_179 (v := nI 1) (by decide) ?_
                    refine j_zaldN C dX6_digest_180 rfl (by omega) (by decide) ?_
                    refine j_top C _ (hX4.2.2.1 1 (by decide)) ?_
                    refine j_if_eqB C dX6_digest_181 (tgt := 188) (by decide) (fun cq181 => ?_) (fun cq181 => ?_)
                    · refine j_iconst C dX6_digest_188 (v := nI 0) (by decide) ?_
                      refine j_i2l C dX6_digest_189 ?_
                      refine j_ladd C dX6_digest_190 ?_
                      refine j_topl C ((hN (fFl S) (hx (hx (hN (fCh S.1) (hPs S.1 cf az bz (hN (fPo S.1) (hN (fCn S) 3677 8) 40) 4) (3 * S.1 44)) (nI (bst S.1)).toInt64) (shr S.1).toInt64) 2)) (hN_m (k := 1) (by first | exact fFl_m0 cq181 | exact fFl_m1 cq181)) ?_
                      refine j_lstore_n C dX6_digest_191 (by decide) ?_
                      refine j_ldc2 C dX6_digest_192 cst_X6_digest_192 ?_
                      refine j_lload_n C dX6_digest_195 rfl ?_
                      refine j_lmul C dX6_digest_196 ?_
                      refine j_aload_n C dX6_digest_197 rfl ?_
                      refine j_getf C dX6_digest_198 rfl (by decide) (T := TX6) rfl in_X6_digest_X6 (k := 4) (by decide) fl_X6_digest_127 rfl rfl ?_
                      refine j_top C (_) hX4.2.2.2.2.2.1 ?_
                      refine j_i2l C dX6_digest_201 ?_
                      refine j_ladd C dX6_digest_202 ?_
                      refine j_topl C (_) hx_m ?_
                      refine j_lstore_n C dX6_digest_203 (by decide) ?_
                      refine j_iconst C dX6_digest_204 (v := nI 0) (by decide) ?_
                      refine j_istore_n C dX6_digest_205 (by decide) ?_
                      have L206 : ∀ k, k ≤ S.2.2.2.2.2.1 → J G pg l ev (rmD 11) sg mm ([.ref (G.2.2 84)] : List Value).toArray bl mt cd AZ 4 (MQ bl (QQ G (fun v9 M9 => v9 = some (.long (dgS S cf az bz)) ∧ Xm M9 S ∧ Off M M9 inM) AZ) ([.ref (G.2.2 84)] : List Value).toArray sg 0 0 AZ) 0 0 206 [(0, .ref (G.2.2 84)), (1, .long (hN (fTx S.2.2.2.2.2.2) (hx (hN (fFl S) (hx (hx (hN (fCh S.1) (hPs S.1 cf az bz (hN (fPo S.1) (hN (fCn S) 3677 8) 40) 4) (3 * S.1 44)) (nI (bst S.1)).toInt64) (shr S.1).toInt64) 2) (nI S.2.2.2.2.2.1).toInt64) k)), (3, .int (nI k))] [] (M4) := by
                        refine dnto ?_
                        intro k hk206 ih206
                        refine j_iload_n C dX6_digest_206 rfl ?_
                        refine j_aload_n C dX6_digest_207 rfl ?_
                        refine j_getf C dX6_digest_208 rfl (by decide) (T := TX6) rfl in_X6_digest_X6 (k := 4) (by decide) fl_X6_digest_127 rfl rfl ?_
                        refine j_top C (_) hX4.2.2.2.2.2.1 ?_
                        refine j_icmp_geN C dX6_digest_211 (tgt := 234) (by decide) (by omega) (by omega) (fun cq211 => ?_) (fun cq211 => ?_)
                        · have e9 : k = S.2.2.2.2.2.1 := by omega
                          subst e9
                          refine j_lload_n C dX6_digest_234 rfl ?_
                          exact j_lreturn C hret dX6_digest_235 ⟨rfl, hX4, ho2.tr ho4⟩
                        · refine j_ldc2 C dX6_digest_214 cst_X6_digest_192 ?_
                          refine j_lload_n C dX6_digest_217 rfl ?_
                          refine j_lmul C dX6_digest_218 ?_
                          refine j_aload_n C dX6_digest_219 rfl ?_
                          refine j_getf C dX6_digest_220 rfl (by decide) (T := TX6) rfl in_X6_digest_X6 (k := 3) (by decide) fl_X6_digest_17 rfl rfl ?_
                          refine j_iload_n C dX6_digest_223 rfl ?_
                          refine j_caldN C dX6_digest_224 (by omega) ?_
                          refine j_top C _ (hX4.2.2.2.2.2.2.1 _ (by omega)) ?_
                          refine j_i2l C dX6_digest_225 ?_
                          refine j_ladd C dX6_digest_226 ?_
                          refine j_topl C (_) (hN_m rfl) ?_
                          refine j_lstore_n C dX6_digest_227 (by decide) ?_
                          refine j_iincN C dX6_digest_228 rfl (by decide) ?_
                          refine j_goto C dX6_digest_231 (tgt := 206) (by decide) ?_
                          exact ih206 (by omega)
                      exact L206 0 (by omega)
                    · refine j_iconst C dX6_digest_184 (v := nI 1) (by decide) ?_
                      refine j_goto C dX6_digest_185 (tgt := 189) (by decide) ?_
                      refine j_i2l C dX6_digest_189 ?_
                      refine j_ladd C dX6_digest_190 ?_
                      refine j_topl C ((hN (fFl S) (hx (hx (hN (fCh S.1) (hPs S.1 cf az bz (hN (fPo S.1) (hN (fCn S) 3677 8) 40) 4) (3 * S.1 44)) (nI (bst S.1)).toInt64) (shr S.1).toInt64) 2)) (hN_m (k := 1) (by first | exact fFl_m0 cq181 | exact fFl_m1 cq181)) ?_
                      refine j_lstore_n C dX6_digest_191 (by decide) ?_
                      refine j_ldc2 C dX6_digest_192 cst_X6_digest_192 ?_
                      refine j_lload_n C dX6_digest_195 rfl ?_
                      refine j_lmul C dX6_digest_196 ?_
                      refine j_aload_n C dX6_digest_197 rfl ?_
                      refine j_getf C dX6_digest_198 rfl (by decide) (T := TX6) rfl in_X6_digest_X6 (k := 4) (by decide) fl_X6_digest_127 rfl rfl ?_
                      refine j_top C (_) hX4.2.2.2.2.2.1 ?_
                      refine j_i2l C dX6_digest_201 ?_
                      refine j_ladd C dX6_digest_202 ?_
                      refine j_topl C (_) hx_m ?_
                      refine j_lstore_n C dX6_digest_203 (by decide) ?_
                      refine j_iconst C dX6_digest_204 (v := nI 0) (by decide) ?_
                      refine j_istore_n C dX6_digest_205 (by decide) ?_
                      have L206 : ∀ k, k ≤ S.2.2.2.2.2.1 → J G pg l ev (rmD 11) sg mm ([.ref (G.2.2 84)] : List Value).toArray bl mt cd AZ 4 (MQ bl (QQ G (fun v9 M9 => v9 = some (.long (dgS S cf az bz)) ∧ Xm M9 S ∧ Off M M9 inM) AZ) ([.ref (G.2.2 84)] : List Value).toArray sg 0 0 AZ) 0 0 206 [(0, .ref (G.2.2 84)), (1, .long (hN (fTx S.2.2.2.2.2.2) (hx (hN (fFl S) (hx (hx (hN (fCh S.1) (hPs S.1 cf az bz (hN (fPo S.1) (hN (fCn S) 3677 8) 40) 4) (3 * S.1 44)) (nI (bst S.1)).toInt64) (shr S.1).toInt64) 2) (nI S.2.2.2.2.2.1).toInt64) k)), (3, .int (nI k))] [] (M4) := by
                        refine dnto ?_
                        intro k hk206 ih206
                        refine j_iload_n C dX6_digest_206 rfl ?_
                        refine j_aload_n C dX6_digest_207 rfl ?_
                        refine j_getf C dX6_digest_208 rfl (by decide) (T := TX6) rfl in_X6_digest_X6 (k := 4) (by decide) fl_X6_digest_127 rfl rfl ?_
                        refine j_top C (_) hX4.2.2.2.2.2.1 ?_
                        refine j_icmp_geN C dX6_digest_211 (tgt := 234) (by decide) (by omega) (by omega) (fun cq211 => ?_) (fun cq211 => ?_)
                        · have e9 : k = S.2.2.2.2.2.1 := by omega
                          subst e9
                          refine j_lload_n C dX6_digest_234 rfl ?_
                          exact j_lreturn C hret dX6_digest_235 ⟨rfl, hX4, ho2.tr ho4⟩
                        · refine j_ldc2 C dX6_digest_214 cst_X6_digest_192 ?_
                          refine j_lload_n C dX6_digest_217 rfl ?_
                          refine j_lmul C dX6_digest_218 ?_
                          refine j_aload_n C dX6_digest_219 rfl ?_
                          refine j_getf C dX6_digest_220 rfl (by decide) (T := TX6) rfl in_X6_digest_X6 (k := 3) (by decide) fl_X6_digest_17 rfl rfl ?_
                          refine j_iload_n C dX6_digest_223 rfl ?_
                          refine j_caldN C dX6_digest_224 (by omega) ?_
                          refine j_top C _ (hX4.2.2.2.2.2.2.1 _ (by omega)) ?_
                          refine j_i2l C dX6_digest_225 ?_
                          refine j_ladd C dX6_digest_226 ?_
                          refine j_topl C (_) (hN_m rfl) ?_
                          refine j_lstore_n C dX6_digest_227 (by decide) ?_
                          refine j_iincN C dX6_digest_228 rfl (by decide) ?_
                          refine j_goto C dX6_digest_231 (tgt := 206) (by decide) ?_
                          exact ih206 (by omega)
                      exact L206 0 (by omega)
                  · refine j_iconst C dX6_digest_162 (v := nI 1) (by decide) ?_
                    refine j_goto C dX6_digest_163 (tgt := 167) (by decide) ?_
                    refine j_i2l C dX6_digest_167 ?_
                    refine j_ladd C dX6_digest_168 ?_
                    refine j_topl C ((hN (fFl S) (hx (hx (hN (fCh S.1) (hPs S.1 cf az bz (hN (fPo S.1) (hN (fCn S) 3677 8) 40) 4) (3 * S.1 44)) (nI (bst S.1)).toInt64) (shr S.1).toInt64) 1)) (hN_m (k := 0) (by first | exact fFl_m0 cq159 | exact fFl_m1 cq159)) ?_
                    refine j_lstore_n C dX6_digest_169 (by decide) ?_
                    refine j_ldc2 C dX6_digest_170 cst_X6_digest_192 ?_
                    refine j_lload_n C dX6_digest_173 rfl ?_
                    refine j_lmul C dX6_digest_174 ?_
                    refine j_aload_n C dX6_digest_175 rfl ?_
                    refine j_getf C dX6_digest_176 rfl (by decide) (T := TX6) rfl in_X6_digest_X6 (k := 2) (by decide) fl_X6_digest_13 rfl rfl ?_
                    refine j_iconst C dX6_digest_179 (v := nI 1) (by decide) ?_
                    refine j_zaldN C dX6_digest_180 rfl (by omega) (by decide) ?_
                    refine j_top C _ (hX4.2.2.1 1 (by decide)) ?_
                    refine j_if_eqB C dX6_digest_181 (tgt := 188) (by decide) (fun cq181 => ?_) (fun cq181 => ?_)
                    · refine j_iconst C dX6_digest_188 (v := nI 0) (by decide) ?_
                      refine j_i2l C dX6_digest_189 ?_
                      refine j_ladd C dX6_digest_190 ?_
                      refine j_topl C ((hN (fFl S) (hx (hx (hN (fCh S.1) (hPs S.1 cf az bz (hN (fPo S.1) (hN (fCn S) 3677 8) 40) 4) (3 * S.1 44)) (nI (bst S.1)).toInt64) (shr S.1).toInt64) 2)) (hN_m (k := 1) (by first | exact fFl_m0 cq181 | exact fFl_m1 cq181)) ?_
                      refine j_lstore_n C dX6_digest_191 (by decide) ?_
                      refine j_ldc2 C dX6_digest_192 cst_X6_digest_192 ?_
                      refine j_lload_n C dX6_digest_195 rfl ?_
                      refine j_lmul C dX6_digest_196 ?_
                      refine j_aload_n C dX6_digest_197 rfl ?_
                      refine j_getf C dX6_digest_198 rfl (by decide) (T := TX6) rfl in_X6_digest_X6 (k := 4) (by decide) fl_X6_digest_127 rfl rfl ?_
                      refine j_top C (_) hX4.2.2.2.2.2.1 ?_
                      refine j_i2l C dX6_digest_201 ?_
                      refine j_ladd C dX6_digest_202 ?_
                      refine j_topl C (_) hx_m ?_
                      refine j_lstore_n C dX6_digest_203 (by decide) ?_
                      refine j_iconst C dX6_digest_204 (v := nI 0) (by decide) ?_
                      refine j_istore_n C dX6_digest_205 (by decide) ?_
                      have L206 : ∀ k, k ≤ S.2.2.2.2.2.1 → J G pg l ev (rmD 11) sg mm ([.ref (G.2.2 84)] : List Value).toArray bl mt cd AZ 4 (MQ bl (QQ G (fun v9 M9 => v9 = some (.long (dgS S cf az bz)) ∧ Xm M9 S ∧ Off M M9 inM) AZ) ([.ref (G.2.2 84)] : List Value).toArray sg 0 0 AZ) 0 0 206 [(0, .ref (G.2.2 84)), (1, .long (hN (fTx S.2.2.2.2.2.2) (hx (hN (fFl S) (hx (hx (hN (fCh S.1) (hPs S.1 cf az bz (hN (fPo S.1) (hN (fCn S) 3677 8) 40) 4) (3 * S.1 44)) (nI (bst S.1)).toInt64) (shr S.1).toInt64) 2) (nI S.2.2.2.2.2.1).toInt64) k)), (3, .int (nI k))] [] (M4) := by
                        refine dnto ?_
                        intro k hk206 ih206
                        refine j_iload_n C dX6_digest_206 rfl ?_
                        refine j_aload_n C dX6_digest_207 rfl ?_
                        refine j_getf C dX6_digest_208 rfl (by decide) (T := TX6) rfl in_X6_digest_X6 (k := 4) (by decide) fl_X6_digest_127 rfl rfl ?_
                        refine j_top C (_) hX4.2.2.2.2.2.1 ?_
                        refine j_icmp_geN C dX6_digest_211 (tgt := 234) (by decide) (by omega) (by omega) (fun cq211 => ?_) (fun cq211 => ?_)
                        · have e9 : k = S.2.2.2.2.2.1 := by omega
                          subst e9
                          refine j_lload_n C dX6_digest_234 rfl ?_
                          exact j_lreturn C hret dX6_digest_235 ⟨rfl, hX4, ho2.tr ho4⟩
                        · refine j_ldc2 C dX6_digest_214 cst_X6_digest_192 ?_
                          refine j_lload_n C dX6_digest_217 rfl ?_
                          refine j_lmul C dX6_digest_218 ?_
                          refine j_aload_n C dX6_digest_219 rfl ?_
                          refine j_getf C dX6_digest_220 rfl (by decide) (T := TX6) rfl in_X6_digest_X6 (k := 3) (by decide) fl_X6_digest_17 rfl rfl ?_
                          refine j_iload_n C dX6_digest_223 rfl ?_
                          refine j_caldN C dX6_digest_224 (by omega) ?_
                          refine j_top C _ (hX4.2.2.2.2.2.2.1 _ (by omega)) ?_
                          refine j_i2l C dX6_digest_225 ?_
                          refine j_ladd C dX6_digest_226 ?_
                          refine j_topl C (_) (hN_m rfl) ?_
                          refine j_lstore_n C dX6_digest_227 (by decide) ?_
                          refine j_iincN C dX6_digest_228 rfl (by decide) ?_
                          refine j_goto C dX6_digest_231 (tgt := 206) (by decide) ?_
                          exact ih206 (by omega)
                      exact L206 0 (by omega)
                    · refine j_iconst C dX6_digest_184 (v := nI 1) (by decide) ?_
                      refine j_goto C dX6_digest_185 (tgt := 189) (by decide) ?_
                      refine j_i2l C dX6_digest_189 ?_
                      refine j_ladd C dX6_digest_190 ?_
                      refine j_topl C ((hN (fFl S) (hx (hx (hN (fCh S.1) (hPs S.1 cf az bz (hN (fPo S.1) (hN (fCn S) 3677 8) 40) 4) (3 * S.1 44)) (nI (bst S.1)).toInt64) (shr S.1).toInt64) 2)) (hN_m (k := 1) (by first | exact fFl_m0 cq181 | exact fFl_m1 cq181)) ?_
                      refine j_lstore_n C dX6_digest_191 (by decide) ?_
                      refine j_ldc2 C dX6_digest_192 cst_X6_digest_192 ?_
                      refine j_lload_n C dX6_digest_195 rfl ?_
                      refine j_lmul C dX6_digest_196 ?_
                      refine j_aload_n C dX6_digest_197 rfl ?_
                      refine j_getf C dX6_digest_198 rfl (by decide) (T := TX6) rfl in_X6_digest_X6 (k := 4) (by decide) fl_X6_digest_127 rfl rfl ?_
                      refine j_top C (_) hX4.2.2.2.2.2.1 ?_
                      refine j_i2l C dX6_digest_201 ?_
                      refine j_ladd C dX6_digest_202 ?_
                      refine j_topl C (_) hx_m ?_
                      refine j_lstore_n C dX6_digest_203 (by decide) ?_
                      refine j_iconst C dX6_digest_204 (v := nI 0) (by decide) ?_
                      refine j_istore_n C dX6_digest_205 (by decide) ?_
                      have L206 : ∀ k, k ≤ S.2.2.2.2.2.1 → J G pg l ev (rmD 11) sg mm ([.ref (G.2.2 84)] : List Value).toArray bl mt cd AZ 4 (MQ bl (QQ G (fun v9 M9 => v9 = some (.long (dgS S cf az bz)) ∧ Xm M9 S ∧ Off M M9 inM) AZ) ([.ref (G.2.2 84)] : List Value).toArray sg 0 0 AZ) 0 0 206 [(0, .ref (G.2.2 84)), (1, .long (hN (fTx S.2.2.2.2.2.2) (hx (hN (fFl S) (hx (hx (hN (fCh S.1) (hPs S.1 cf az bz (hN (fPo S.1) (hN (fCn S) 3677 8) 40) 4) (3 * S.1 44)) (nI (bst S.1)).toInt64) (shr S.1).toInt64) 2) (nI S.2.2.2.2.2.1).toInt64) k)), (3, .int (nI k))] [] (M4) := by
                        refine dnto ?_
                        intro k hk206 ih206
                        refine j_iload_n C dX6_digest_206 rfl ?_
                        refine j_aload_n C dX6_digest_207 rfl ?_
                        refine j_getf C dX6_digest_208 rfl (by decide) (T := TX6) rfl in_X6_digest_X6 (k := 4) (by decide) fl_X6_digest_127 rfl rfl ?_
                        refine j_top C (_) hX4.2.2.2.2.2.1 ?_
                        refine j_icmp_geN C dX6_digest_211 (tgt := 234) (by decide) (by omega) (by omega) (fun cq211 => ?_) (fun cq211 => ?_)
                        · have e9 : k = S.2.2.2.2.2.1 := by omega
                          subst e9
                          refine j_lload_n C dX6_digest_234 rfl ?_
                          exact j_lreturn C hret dX6_digest_235 ⟨rfl, hX4, ho2.tr ho4⟩
                        · refine j_ldc2 C dX6_digest_214 cst_X6_digest_192 ?_
                          refine j_lload_n C dX6_digest_217 rfl ?_
                          refine j_lmul C dX6_digest_218 ?_
                          refine j_aload_n C dX6_digest_219 rfl ?_
                          refine j_getf C dX6_digest_220 rfl (by decide) (T := TX6) rfl in_X6_digest_X6 (k := 3) (by decide) fl_X6_digest_17 rfl rfl ?_
                          refine j_iload_n C dX6_digest_223 rfl ?_
                          refine j_caldN C dX6_digest_224 (by omega) ?_
                          refine j_top C _ (hX4.2.2.2.2.2.2.1 _ (by omega)) ?_
                          refine j_i2l C dX6_digest_225 ?_
                          refine j_ladd C dX6_digest_226 ?_
                          refine j_topl C (_) (hN_m rfl) ?_
                          refine j_lstore_n C dX6_digest_227 (by decide) ?_
                          refine j_iincN C dX6_digest_228 rfl (by decide) ?_
                          refine j_goto C dX6_digest_231 (tgt := 206) (by decide) ?_
                          exact ih206 (by omega)
                      exact L206 0 (by omega)
                · refine j_ldc2 C dX6_digest_98 cst_X6_digest_192 ?_
                  refine j_lload_n C dX6_digest_101 rfl ?_
                  refine j_lmul C dX6_digest_102 ?_
                  refine j_aload_n C dX6_digest_103 rfl ?_
                  refine j_iload_n C dX6_digest_104 rfl ?_
                  refine j_iconst C dX6_digest_105 (v := nI 3) (by decide) ?_
                  refine j_idivN C dX6_digest_106 (by omega) (by decide) (by decide) ?_
                  refine j_iload_n C dX6_digest_107 rfl ?_
                  refine j_iconst C dX6_digest_108 (v := nI 3) (by decide) ?_
                  refine j_iremN C dX6_digest_109 (by omega) (by decide) (by decide) ?_
                  refine j_callV C (cm_ofChart hS2 hW (by omega) (by omega)) dX6_digest_110 rfl (by decide) (T := TX6) rfl gX6_digest_X6_ofChart rfl kd_X6_ofChart rfl rfl (Nat.le_of_ble_eq_true rfl) ⟨by decide, by decide⟩ ⟨Nat.zero_le _, Nat.zero_le _⟩ (k_I ?_)
                  refine j_i2l C dX6_digest_113 ?_
                  refine j_ladd C dX6_digest_114 ?_
                  refine j_topl C (_) (hN_m rfl) ?_
                  refine j_lstore_n C dX6_digest_115 (by decide) ?_
                  refine j_iincN C dX6_digest_116 rfl (by decide) ?_
                  refine j_goto C dX6_digest_119 (tgt := 85) (by decide) ?_
                  exact ih85 (by omega)
              exact L85 0 (by omega)
            · refine j_aload_n C dX6_digest_70 rfl ?_
              refine j_lload_n C dX6_digest_71 rfl ?_
              refine j_iload_n C dX6_digest_72 rfl ?_
              refine j_callV C (cm_mixedOf hX2 hO (by omega) (hcf p (by omega)) (haz p (by omega)) (hbz p (by omega))) dX6_digest_73 rfl (by decide) (T := TX6) rfl gX6_digest_X6_mixedOf rfl kd_X6_mixedOf rfl rfl (Nat.le_of_ble_eq_true rfl) ⟨by decide, by decide⟩ ⟨Nat.zero_le _, Nat.zero_le _⟩ (k_LQ fun M3 hq => ?_)
              obtain ⟨hX3, ho3, -⟩ := hq
              refine j_lstore_n C dX6_digest_76 (by decide) ?_
              refine j_iincN C dX6_digest_77 rfl (by decide) ?_
              refine j_goto C dX6_digest_80 (tgt := 65) (by decide) ?_
              exact ih65 (by omega) M3 hX3 (ho2.tr ho3)
          exact L65 0 (by omega) M hX Off.rf
        · refine j_ldc2 C dX6_digest_39 cst_X6_digest_192 ?_
          refine j_lload_n C dX6_digest_42 rfl ?_
          refine j_lmul C dX6_digest_43 ?_
          refine j_aload_n C dX6_digest_44 rfl ?_
          refine j_iload_n C dX6_digest_45 rfl ?_
          refine j_iconst C dX6_digest_46 (v := nI 5) (by decide) ?_
          refine j_idivN C dX6_digest_47 (by omega) (by decide) (by decide) ?_
          refine j_iload_n C dX6_digest_48 rfl ?_
          refine j_iconst C dX6_digest_49 (v := nI 5) (by decide) ?_
          refine j_iremN C dX6_digest_50 (by omega) (by decide) (by decide) ?_
          refine j_callV C (cm_ofPot hX.1 hW (by omega) (by omega)) dX6_digest_51 rfl (by decide) (T := TX6) rfl gX6_digest_X6_ofPot rfl kd_X6_ofPot rfl rfl (Nat.le_of_ble_eq_true rfl) ⟨by decide, by decide⟩ ⟨Nat.zero_le _, Nat.zero_le _⟩ (k_I ?_)
          refine j_i2l C dX6_digest_54 ?_
          refine j_ladd C dX6_digest_55 ?_
          refine j_topl C (_) (hN_m rfl) ?_
          refine j_lstore_n C dX6_digest_56 (by decide) ?_
          refine j_iincN C dX6_digest_57 rfl (by decide) ?_
          refine j_goto C dX6_digest_60 (tgt := 33) (by decide) ?_
          exact ih33 (by omega)
      exact L33 0 (by omega)
    · refine j_ldc2 C dX6_digest_12 cst_X6_digest_192 ?_
      refine j_lload_n C dX6_digest_15 rfl ?_
      refine j_lmul C dX6_digest_16 ?_
      refine j_aload_n C dX6_digest_17 rfl ?_
      refine j_iload_n C dX6_digest_18 rfl ?_
      refine j_callV C (cm_counted hX.1 hW hX.2.1.2.1 (by omega)) dX6_digest_19 rfl (by decide) (T := TX6) rfl gX6_digest_X6_counted rfl kd_X6_counted rfl rfl (Nat.le_of_ble_eq_true rfl) ⟨by decide, by decide⟩ ⟨Nat.zero_le _, Nat.zero_le _⟩ (k_I ?_)
      refine j_i2l C dX6_digest_22 ?_
      refine j_ladd C dX6_digest_23 ?_
      refine j_topl C (_) (hN_m rfl) ?_
      refine j_lstore_n C dX6_digest_24 (by decide) ?_
      refine j_iincN C dX6_digest_25 rfl (by decide) ?_
      refine j_goto C dX6_digest_28 (tgt := 6) (by decide) ?_
      exact ih6 (by omega)
  exact L6 0 (by omega)
