set_option maxRecDepth 20000 in
theorem kd_X6_isChart : yX6_isChart.cls = RX6 ∧ yX6_isChart.cls ≠ "java/lang/invoke/MethodHandle" ∧ yX6_isChart.cls ≠ "java/lang/invoke/VarHandle" ∧ (parseMethodDescriptor yX6_isChart.desc).map (fun d => d.parameters.length) = some 1 := by decide +kernel
set_option maxRecDepth 20000 in
theorem ks_X6_ones : yX6_ones.cls ≠ "java/lang/invoke/MethodHandle" ∧ yX6_ones.cls ≠ "java/lang/invoke/VarHandle" ∧ (parseMethodDescriptor yX6_ones.desc).map (fun d => d.parameters.length) = some 1 := by decide +kernel
set_option maxRecDepth 20000 in
theorem in_X6_takeDown_X6 : ∀ w ∈ wsX60, w ∈ wsX6_takeDown := by decide +kernel
set_option maxRecDepth 20000 in
theorem fl_X6_takeDown_7 : Cond.fieldLink RX6 7 "PotLabelsModel" "s" "[I" ∈ wsX6_takeDown := by decide +kernel
set_option maxRecDepth 20000 in
theorem in_X6_append_X6 : ∀ w ∈ wsX60, w ∈ wsX6_append := by decide +kernel
set_option maxRecDepth 20000 in
theorem fl_X6_append_127 : Cond.fieldLink RX6 127 "PotLabelsModel" "typed" "I" ∈ wsX6_append := by decide +kernel
set_option maxRecDepth 20000 in
theorem fl_X6_append_17 : Cond.fieldLink RX6 17 "PotLabelsModel" "buffer" "[C" ∈ wsX6_append := by decide +kernel
set_option maxRecDepth 20000 in
theorem in_X6_clearBuffer_X6 : ∀ w ∈ wsX60, w ∈ wsX6_clearBuffer := by decide +kernel
set_option maxRecDepth 20000 in
theorem fl_X6_clearBuffer_31 : Cond.fieldLink RX6 31 "PotLabelsModel" "thrown" "I" ∈ wsX6_clearBuffer := by decide +kernel
set_option maxRecDepth 20000 in
theorem fl_X6_clearBuffer_127 : Cond.fieldLink RX6 127 "PotLabelsModel" "typed" "I" ∈ wsX6_clearBuffer := by decide +kernel
set_option maxRecDepth 20000 in
theorem in_X6_firstError_X6 : ∀ w ∈ wsX60, w ∈ wsX6_firstError := by decide +kernel
set_option maxRecDepth 20000 in
theorem fl_X6_firstError_31 : Cond.fieldLink RX6 31 "PotLabelsModel" "thrown" "I" ∈ wsX6_firstError := by decide +kernel
set_option maxRecDepth 20000 in
theorem kd_X6_error : yX6_error.cls = RX6 ∧ yX6_error.cls ≠ "java/lang/invoke/MethodHandle" ∧ yX6_error.cls ≠ "java/lang/invoke/VarHandle" ∧ (parseMethodDescriptor yX6_error.desc).map (fun d => d.parameters.length) = some 0 := by decide +kernel
set_option maxRecDepth 20000 in
theorem ks_X6_isSlot : yX6_isSlot.cls ≠ "java/lang/invoke/MethodHandle" ∧ yX6_isSlot.cls ≠ "java/lang/invoke/VarHandle" ∧ (parseMethodDescriptor yX6_isSlot.desc).map (fun d => d.parameters.length) = some 1 := by decide +kernel
set_option maxRecDepth 20000 in
theorem in_X6_keep_X6 : ∀ w ∈ wsX60, w ∈ wsX6_keep := by decide +kernel
set_option maxRecDepth 20000 in
theorem fl_X6_keep_13 : Cond.fieldLink RX6 13 "PotLabelsModel" "isKept" "[Z" ∈ wsX6_keep := by decide +kernel
set_option maxRecDepth 20000 in
theorem in_X6_goBack_X6 : ∀ w ∈ wsX60, w ∈ wsX6_goBack := by decide +kernel
set_option maxRecDepth 20000 in
theorem fl_X6_goBack_13 : Cond.fieldLink RX6 13 "PotLabelsModel" "isKept" "[Z" ∈ wsX6_goBack := by decide +kernel
set_option maxRecDepth 20000 in
theorem in_X6_undo_X6 : ∀ w ∈ wsX60, w ∈ wsX6_undo := by decide +kernel
set_option maxRecDepth 20000 in
theorem fl_X6_undo_35 : Cond.fieldLink RX6 35 "PotLabelsModel" "saved" "I" ∈ wsX6_undo := by decide +kernel
set_option maxRecDepth 20000 in
theorem kd_X6_ofPot : yX6_ofPot.cls = RX6 ∧ yX6_ofPot.cls ≠ "java/lang/invoke/MethodHandle" ∧ yX6_ofPot.cls ≠ "java/lang/invoke/VarHandle" ∧ (parseMethodDescriptor yX6_ofPot.desc).map (fun d => d.parameters.length) = some 2 := by decide +kernel
set_option maxRecDepth 20000 in
theorem kd_X6_seenBy : yX6_seenBy.cls = RX6 ∧ yX6_seenBy.cls ≠ "java/lang/invoke/MethodHandle" ∧ yX6_seenBy.cls ≠ "java/lang/invoke/VarHandle" ∧ (parseMethodDescriptor yX6_seenBy.desc).map (fun d => d.parameters.length) = some 2 := by decide +kernel
set_option maxRecDepth 20000 in
theorem kd_X6_ofChart : yX6_ofChart.cls = RX6 ∧ yX6_ofChart.cls ≠ "java/lang/invoke/MethodHandle" ∧ yX6_ofChart.cls ≠ "java/lang/invoke/VarHandle" ∧ (parseMethodDescriptor yX6_ofChart.desc).map (fun d => d.parameters.length) = some 2 := by decide +kernel
set_option maxRecDepth 20000 in
theorem kd_X6_counted : yX6_counted.cls = RX6 ∧ yX6_counted.cls ≠ "java/lang/invoke/MethodHandle" ∧ yX6_counted.cls ≠ "java/lang/invoke/VarHandle" ∧ (parseMethodDescriptor yX6_counted.desc).map (fun d => d.parameters.length) = some 1 := by decide +kernel
set_option maxRecDepth 20000 in
theorem kd_X6_withLender : yX6_withLender.cls = RX6 ∧ yX6_withLender.cls ≠ "java/lang/invoke/MethodHandle" ∧ yX6_withLender.cls ≠ "java/lang/invoke/VarHandle" ∧ (parseMethodDescriptor yX6_withLender.desc).map (fun d => d.parameters.length) = some 2 := by decide +kernel
set_option maxRecDepth 20000 in
theorem kd_X6_least : yX6_least.cls = RX6 ∧ yX6_least.cls ≠ "java/lang/invoke/MethodHandle" ∧ yX6_least.cls ≠ "java/lang/invoke/VarHandle" ∧ (parseMethodDescriptor yX6_least.desc).map (fun d => d.parameters.length) = some 3 := by decide +kernel
set_option maxRecDepth 20000 in
theorem in_X6_bestPainter_X6 : ∀ w ∈ wsX60, w ∈ wsX6_bestPainter := by decide +kernel
set_option maxRecDepth 20000 in
theorem fl_X6_bestPainter_31 : Cond.fieldLink RX6 31 "PotLabelsModel" "thrown" "I" ∈ wsX6_bestPainter := by decide +kernel
set_option maxRecDepth 20000 in
theorem kd_X6_best : yX6_best.cls = RX6 ∧ yX6_best.cls ≠ "java/lang/invoke/MethodHandle" ∧ yX6_best.cls ≠ "java/lang/invoke/VarHandle" ∧ (parseMethodDescriptor yX6_best.desc).map (fun d => d.parameters.length) = some 0 := by decide +kernel
set_option maxRecDepth 20000 in
theorem in_X6_apartShare_X6 : ∀ w ∈ wsX60, w ∈ wsX6_apartShare := by decide +kernel
set_option maxRecDepth 20000 in
theorem fl_X6_apartShare_31 : Cond.fieldLink RX6 31 "PotLabelsModel" "thrown" "I" ∈ wsX6_apartShare := by decide +kernel
set_option maxRecDepth 20000 in
theorem cst_X6_apartShare_190 : Cond.constantDouble RX6 190 (4637581716284768256) ∈ wsX6_apartShare := by decide +kernel
theorem isC_t {n k : Nat} (h : k < n) (hn : n ≤ 6) : inI (nI k) (nI 0) (nI n - nI 1) = true := by
  rw [pk_sub (by omega)]
  exact inI_N (Nat.zero_le k) (by omega) (by omega)
/-- the model's charts move down, two places at a time -/
theorem rm_two {σ : Sg} {c n : Nat} (h : c < n) : upS (upS (rmK σ c n) (45 + 2 * (n - 1)) (σ (45 + 2 * n))) (46 + 2 * (n - 1)) (σ (46 + 2 * n)) = rmK σ c (n + 1) := rmK_s h
def rmJ (σ : Sg) (c m : Nat) : Sg := fun j => if 45 + 2 * c ≤ j ∧ j < 45 + m then σ (j + 2) else σ j
theorem rmJ_0 {σ : Sg} {c : Nat} : rmJ σ c (2 * c) = σ := by funext j; unfold rmJ; rw [if_neg (by omega)]
theorem rmJ_s {σ : Sg} {c m : Nat} (h : 2 * c ≤ m) : upS (rmJ σ c m) (45 + m) (σ (45 + m + 2)) = rmJ σ c (m + 1) := by
  funext j; unfold upS rmJ
  by_cases e : j = 45 + m
  · rw [if_pos e, if_pos (by omega), e]
  · rw [if_neg e]
    by_cases e2 : 45 + 2 * c ≤ j ∧ j < 45 + m
    · rw [if_pos e2, if_pos (by omega)]
    · rw [if_neg e2, if_neg (by omega)]
theorem rmJ_K {σ : Sg} {c n : Nat} (h : 0 < n) : rmJ σ c (2 * (n - 1)) = rmK σ c n := by
  funext j; unfold rmJ rmK
  by_cases e : 45 + 2 * c ≤ j ∧ j < 45 + 2 * (n - 1)
  · rw [if_pos e, if_pos (by omega)]
  · rw [if_neg e, if_neg (by omega)]
theorem rmJ_hi {σ : Sg} {c m j : Nat} (h : 45 + m ≤ j) : rmJ σ c m j = σ j := by unfold rmJ; rw [if_neg (by omega)]
theorem rmJ_lo {σ : Sg} {c m j : Nat} (h : j < 45) : rmJ σ c m j = σ j := by unfold rmJ; rw [if_neg (by omega)]

set_option maxHeartbeats 4000000 in
set_option maxRecDepth 100000 in
theorem cm_takeDown {l : Launch} {G : GG} {M : MM} {S : SS} (hX : Xm M S) (hO : OkS S) {ch : Nat} (hc : ch < S.1 44) : Ct l G yX6_takeDown wsX6_takeDown 8 ([.ref (G.2.2 84), .int (nI ch)] : List Value) M (fun v9 M9 => v9 = some (.int (nI (popc (rdm S.1 ch)))) ∧ Xm M9 (svW S (rmS S.1 ch)) ∧ Off M M9 inM ∧ M9.2.1 84 5 = nI 0) := by
  have hS := hX.1
  have hW := hO.1
  have h44 := hW.2.2.1
  refine Ct.of (cc := cX6_takeDown) (maxL := 4) (ret := (some .int)) (lv := [(0, .ref (G.2.2 84)), (1, .int (nI ch))]) (by decide) rfl rfl (Nat.le_of_ble_eq_true rfl) ?_
  intro pg ev sg mm bl mt cd AZ C hret
  refine j_aload_n C dX6_takeDown_0 rfl ?_
  refine j_aload_n C dX6_takeDown_1 rfl ?_
  refine j_iload_n C dX6_takeDown_2 rfl ?_
  refine j_callV C (cm_isChart hS hW) dX6_takeDown_3 rfl (by decide) (T := TX6) rfl gX6_takeDown_X6_isChart rfl kd_X6_isChart rfl rfl (Nat.le_of_ble_eq_true rfl) ⟨by decide, by decide⟩ ⟨Nat.zero_le _, Nat.zero_le _⟩ (k_I ?_)
  refine j_top C (bI true) (congrArg bI (isC_t hc h44)) ?_
  refine j_iconst C dX6_takeDown_6 (v := nI 1) (by decide) ?_
  refine j_top C (bI true) rfl ?_
  refine j_callV C cm_goes dX6_takeDown_7 rfl (by decide) (T := TX6) rfl gX6_takeDown_X6_goes rfl kd_X6_goes rfl rfl (Nat.le_of_ble_eq_true rfl) ⟨by decide, by decide⟩ ⟨Nat.zero_le _, Nat.zero_le _⟩ (k_I ?_)
  refine j_top C (bI true) rfl ?_
  have hX1 : Xm (setV M 84 5 (nI (thr true true))) S := hX.thr
  have hS1 := hX1.1
  refine j_if_neB C dX6_takeDown_10 (tgt := 15) (by decide) (fun cq10 => ?_) (fun cq10 => absurd cq10 (by decide))
  refine j_aload_n C dX6_takeDown_15 rfl ?_
  refine j_callV C (cm_saves hX1.2.1 hX1.1) dX6_takeDown_16 rfl (by decide) (T := TX6) rfl gX6_takeDown_X6_saves rfl kd_X6_saves rfl rfl (Nat.le_of_ble_eq_true rfl) ⟨by decide, by decide⟩ ⟨Nat.zero_le _, Nat.zero_le _⟩ (k_VQ fun M3 hq => ?_)
  obtain ⟨hm, ho⟩ := hq
  have hX3 := hX1.save hm ho
  have hS3 : Sm M3 0 S.1 := hX3.1
  refine j_aload_n C dX6_takeDown_19 rfl ?_
  refine j_iload_n C dX6_takeDown_20 rfl ?_
  refine j_callV C (cm_readers hS3 hW (by omega)) dX6_takeDown_21 rfl (by decide) (T := TX6) rfl gX6_takeDown_X6_readers rfl kd_X6_readers rfl rfl (Nat.le_of_ble_eq_true rfl) ⟨by decide, by decide⟩ ⟨Nat.zero_le _, Nat.zero_le _⟩ (k_I ?_)
  refine j_callS C (cm_ones (Nat.lt_trans tpm_lt (by decide))) dX6_takeDown_24 gX6_takeDown_X6_ones rfl ks_X6_ones rfl rfl (Nat.le_of_ble_eq_true rfl) ⟨by decide, by decide⟩ ⟨Nat.zero_le _, Nat.zero_le _⟩ (k_I ?_)
  refine j_istore_n C dX6_takeDown_27 (by decide) ?_
  refine j_aload_n C dX6_takeDown_28 rfl ?_
  refine j_getf C dX6_takeDown_29 rfl (by decide) (T := TX6) rfl in_X6_takeDown_X6 (k := 0) (by decide) fl_X6_takeDown_7 rfl rfl ?_
  refine j_bipush C dX6_takeDown_32 (v := nI 44) (by decide) ?_
  refine j_dup2 C dX6_takeDown_34 rfl rfl ?_
  refine j_ialdN C dX6_takeDown_35 (show ilen 85 = some 531 from rfl) (by omega) (by decide) ?_
  refine j_top C _ (m_ch hS3) ?_
  refine j_iconst C dX6_takeDown_36 (v := nI 1) (by decide) ?_
  refine j_isubN C dX6_takeDown_37 (by omega) ?_
  refine j_iastN C dX6_takeDown_38 (show ilen 85 = some 531 from rfl) (by omega) (by decide) ?_
  have hS4 := Sm_upN (k := 44) (v := S.1 44 - 1) hS3 (by decide) (by decide) (by decide)
  refine j_iconst C dX6_takeDown_39 (v := nI 2) (by decide) ?_
  refine j_iload_n C dX6_takeDown_40 rfl ?_
  refine j_imulN C dX6_takeDown_41 ?_
  refine j_istore_n C dX6_takeDown_42 (by decide) ?_
  have L43 : ∀ k, k ≤ 2 * (S.1 44 - 1) → 2 * ch ≤ k → ∀ M2 : MM, Sm M2 0 (upS (rmJ S.1 ch k) 44 (S.1 44 - 1)) → Fr M3 M2 js0 noJ → J G pg l ev (rmD 8) sg mm ([.ref (G.2.2 84), .int (nI ch)] : List Value).toArray bl mt cd AZ 4 (MQ bl (QQ G (fun v9 M9 => v9 = some (.int (nI (popc (rdm S.1 ch)))) ∧ Xm M9 (svW S (rmS S.1 ch)) ∧ Off M M9 inM ∧ M9.2.1 84 5 = nI 0) AZ) ([.ref (G.2.2 84), .int (nI ch)] : List Value).toArray sg 0 0 AZ) 0 0 43 [(0, .ref (G.2.2 84)), (1, .int (nI ch)), (2, .int (nI (popc (rdm S.1 ch)))), (3, .int (nI k))] [] (M2) := by
    refine dnto ?_
    intro k hk43 ih43 hck M2 hS2 hF2
    refine j_iload_n C dX6_takeDown_43 rfl ?_
    refine j_iconst C dX6_takeDown_44 (v := nI 2) (by decide) ?_
    refine j_aload_n C dX6_takeDown_45 rfl ?_
    refine j_getf C dX6_takeDown_46 rfl (by decide) (T := TX6) rfl in_X6_takeDown_X6 (k := 0) (by decide) fl_X6_takeDown_7 rfl rfl ?_
    refine j_bipush C dX6_takeDown_49 (v := nI 44) (by decide) ?_
    refine j_ialdN C dX6_takeDown_51 (show ilen 85 = some 531 from rfl) (by omega) (by decide) ?_
    refine j_top C _ ((m_ch hS2).trans (congrArg nI upS_eq)) ?_
    refine j_imulN C dX6_takeDown_52 ?_
    refine j_icmp_geN C dX6_takeDown_53 (tgt := 82) (by decide) (by omega) (by omega) (fun cq53 => ?_) (fun cq53 => ?_)
    · refine j_iload_n C dX6_takeDown_82 rfl ?_
      have e9 : k = 2 * (S.1 44 - 1) := by omega
      subst e9
      rw [rmJ_K (by omega)] at hS2
      exact j_ireturn C hret dX6_takeDown_83 ⟨rfl, hX3.cur (ks := noJ) hS2 hF2 (fun h => h) (fun h => h), ((Fr.V (js := noJ) (ks := fun k => k = 5) rfl).off.tr ho.off).tr hF2.off, (hF2.2.2 5 (fun h => h)).trans ((ho.2.2 5 (by unfold k1; omega)).trans setV_eq)⟩
    · refine j_aload_n C dX6_takeDown_56 rfl ?_
      refine j_getf C dX6_takeDown_57 rfl (by decide) (T := TX6) rfl in_X6_takeDown_X6 (k := 0) (by decide) fl_X6_takeDown_7 rfl rfl ?_
      refine j_bipush C dX6_takeDown_60 (v := nI 45) (by decide) ?_
      refine j_iload_n C dX6_takeDown_62 rfl ?_
      refine j_iaddN C dX6_takeDown_63 ?_
      refine j_aload_n C dX6_takeDown_64 rfl ?_
      refine j_getf C dX6_takeDown_65 rfl (by decide) (T := TX6) rfl in_X6_takeDown_X6 (k := 0) (by decide) fl_X6_takeDown_7 rfl rfl ?_
      refine j_bipush C dX6_takeDown_68 (v := nI 45) (by decide) ?_
      refine j_iload_n C dX6_takeDown_70 rfl ?_
      refine j_iaddN C dX6_takeDown_71 ?_
      refine j_iconst C dX6_takeDown_72 (v := nI 2) (by decide) ?_
      refine j_iaddN C dX6_takeDown_73 ?_
      refine j_ialdN C dX6_takeDown_74 (show ilen 85 = some 531 from rfl) (by omega) (by decide) ?_
      refine j_top C _ (((Sm_at hS2 (by omega)).trans (sv_nI (by omega) (by omega))).trans (congrArg nI ((upS_ne (by omega)).trans (rmJ_hi (by omega))))) ?_
      refine j_iastN C dX6_takeDown_75 (show ilen 85 = some 531 from rfl) (by omega) (by decide) ?_
      refine j_iincN C dX6_takeDown_76 rfl (by decide) ?_
      refine j_goto C dX6_takeDown_79 (tgt := 43) (by decide) ?_
      exact ih43 (by omega) (by omega) _ (by rw [← rmJ_s hck, upS_com (by omega)]; exact Sm_upN hS2 (by omega) (by omega) (by omega)) (hF2.tr (Fr.R (by unfold js0; omega)))
  exact L43 (2 * ch) (by omega) (Nat.le_refl _) _ (by rw [rmJ_0]; exact hS4) (Fr.R (by unfold js0; omega))

theorem chr_ok {k : Nat} (h : k ≤ 126) : ((nI k).toUInt32 % 65536).toInt32 = nI k := by
  have q : ∀ k, k < 127 → ((nI k).toUInt32 % 65536).toInt32 = nI k := by decide +kernel
  exact q k (by omega)
theorem nar_ok {k : Nat} (h : k ≤ 126) : vp_nar .char (nI k) = nI k := by
  rw [vp_nar_char]
  have q : ∀ k, k < 127 → (nI k).toUInt32.toUInt16.toUInt32.toInt32 = nI k := by decide +kernel
  exact q k (by omega)
theorem Xm.app {M : MM} {S : SS} {k : Nat} (h : Xm M S) (hn : S.2.2.2.2.2.1 < 60) (hk : 33 ≤ k ∧ k ≤ 126) : Xm (setV (setR M 87 S.2.2.2.2.2.1 (nI k)) 84 4 (nI (S.2.2.2.2.2.1 + 1))) (st_text S k) := by
  obtain ⟨a1, a2, a3, a4, a5⟩ := h
  have hr : ∀ j, (setV (setR M 87 S.2.2.2.2.2.1 (nI k)) 84 4 (nI (S.2.2.2.2.2.1 + 1))).1 85 j = M.1 85 j := fun j => congrFun (setR_ne (M := M) (i := 87) (j := S.2.2.2.2.2.1) (v := nI k) (a := 85) (by decide)) j
  have hs : ∀ {n : Nat} {τ : Sg}, Sm M n τ → Sm (setV (setR M 87 S.2.2.2.2.2.1 (nI k)) 84 4 (nI (S.2.2.2.2.2.1 + 1))) n τ := fun h k hk => (hr _).trans (h k hk)
  refine ⟨hs a1, ⟨a2.1, (setV_nk (by decide)).trans a2.2.1, fun k hk => hs (a2.2.2 k hk)⟩, fun t ht => (congrFun (setR_ne (M := M) (i := 87) (j := S.2.2.2.2.2.1) (v := nI k) (a := 86) (by decide)) t).trans (a3 t ht), fun t ht hf => hs (a4 t ht hf), ⟨hn, setV_eq, fun j hj => ?_, fun j hj => ?_⟩⟩
  · show (setR M 87 S.2.2.2.2.2.1 (nI k)).1 87 j = nI (if j = S.2.2.2.2.2.1 then k else S.2.2.2.2.2.2 j)
    rw [setR_eq]
    have hj2 : j < S.2.2.2.2.2.1 + 1 := hj
    by_cases e : j = S.2.2.2.2.2.1
    · rw [if_pos e, e, upd_eq]
    · rw [if_neg e, upd_ne e]; exact a5.2.2.1 j (by omega)
  · show 33 ≤ (if j = S.2.2.2.2.2.1 then k else S.2.2.2.2.2.2 j) ∧ (if j = S.2.2.2.2.2.1 then k else S.2.2.2.2.2.2 j) ≤ 126
    have hj2 : j < S.2.2.2.2.2.1 + 1 := hj
    by_cases e : j = S.2.2.2.2.2.1
    · rw [if_pos e]; exact hk
    · rw [if_neg e]; exact a5.2.2.2 j (by omega)
theorem Xm.clr {M : MM} {S : SS} (h : Xm M S) : Xm (setV M 84 4 (nI 0)) (setT S 0 S.2.2.2.2.2.2) := by
  obtain ⟨a1, a2, a3, a4, a5⟩ := h
  exact ⟨a1, ⟨a2.1, (setV_nk (by decide)).trans a2.2.1, a2.2.2⟩, a3, a4, ⟨Nat.zero_le _, setV_eq, fun j hj => absurd hj (Nat.not_lt_zero j), fun j hj => absurd hj (Nat.not_lt_zero j)⟩⟩

set_option maxHeartbeats 4000000 in
set_option maxRecDepth 100000 in
theorem cm_append {l : Launch} {G : GG} {M : MM} {S : SS} (hX : Xm M S) (hO : OkS S) {k : Nat} (h1 : 33 ≤ k) (h2 : k ≤ 126) (hn : S.2.2.2.2.2.1 < 60) : Ct l G yX6_append wsX6_append 2 ([.ref (G.2.2 84), .int (nI k)] : List Value) M (fun v9 M9 => v9 = some (.int (nI (S.2.2.2.2.2.1 + 1))) ∧ Xm M9 (st_text S k) ∧ Off M M9 inM ∧ M9.2.1 84 5 = nI 0) := by
  have hS := hX.1
  have hW := hO.1
  refine Ct.of (cc := cX6_append) (maxL := 2) (ret := (some .int)) (lv := [(0, .ref (G.2.2 84)), (1, .int (nI k))]) (by decide) rfl rfl (Nat.le_of_ble_eq_true rfl) ?_
  intro pg ev sg mm bl mt cd AZ C hret
  refine j_aload_n C dX6_append_0 rfl ?_
  refine j_iload_n C dX6_append_1 rfl ?_
  refine j_bipush C dX6_append_2 (v := nI 33) (by decide) ?_
  refine j_bipush C dX6_append_4 (v := nI 126) (by decide) ?_
  refine j_callS C cm_in dX6_append_6 gX6_append_X6_in rfl ks_X6_in rfl rfl (Nat.le_of_ble_eq_true rfl) ⟨by decide, by decide⟩ ⟨Nat.zero_le _, Nat.zero_le _⟩ (k_I ?_)
  refine j_top C (bI true) (congrArg bI (inI_N h1 h2 (by decide))) ?_
  refine j_aload_n C dX6_append_9 rfl ?_
  refine j_getf C dX6_append_10 rfl (by decide) (T := TX6) rfl in_X6_append_X6 (k := 4) (by decide) fl_X6_append_127 rfl rfl ?_
  refine j_top C (_) hX.2.2.2.2.2.1 ?_
  refine j_bipush C dX6_append_13 (v := nI 60) (by decide) ?_
  refine j_icmp_geN C dX6_append_15 (tgt := 22) (by decide) (by omega) (by omega) (fun cq15 => absurd cq15 (by omega)) (fun cq15 => ?_)
  refine j_iconst C dX6_append_18 (v := nI 1) (by decide) ?_
  refine j_top C (bI true) rfl ?_
  refine j_goto C dX6_append_19 (tgt := 23) (by decide) ?_
  refine j_callV C cm_goes dX6_append_23 rfl (by decide) (T := TX6) rfl gX6_append_X6_goes rfl kd_X6_goes rfl rfl (Nat.le_of_ble_eq_true rfl) ⟨by decide, by decide⟩ ⟨Nat.zero_le _, Nat.zero_le _⟩ (k_I ?_)
  refine j_top C (bI true) rfl ?_
  have hX1 : Xm (setV M 84 5 (nI (thr true true))) S := hX.thr
  have hS1 := hX1.1
  refine j_if_neB C dX6_append_26 (tgt := 31) (by decide) (fun cq26 => ?_) (fun cq26 => absurd cq26 (by decide))
  refine j_aload_n C dX6_append_31 rfl ?_
  refine j_getf C dX6_append_32 rfl (by decide) (T := TX6) rfl in_X6_append_X6 (k := 3) (by decide) fl_X6_append_17 rfl rfl ?_
  refine j_aload_n C dX6_append_35 rfl ?_
  refine j_getf C dX6_append_36 rfl (by decide) (T := TX6) rfl in_X6_append_X6 (k := 4) (by decide) fl_X6_append_127 rfl rfl ?_
  refine j_top C (_) hX1.2.2.2.2.2.1 ?_
  refine j_iload_n C dX6_append_39 rfl ?_
  refine j_i2c C dX6_append_40 ?_
  refine j_top C (nI k) (chr_ok h2) ?_
  refine j_castN C dX6_append_41 (by omega) (nar_ok h2) ?_
  refine j_aload_n C dX6_append_42 rfl ?_
  refine j_dup C dX6_append_43 rfl ?_
  refine j_getf C dX6_append_44 rfl (by decide) (T := TX6) rfl in_X6_append_X6 (k := 4) (by decide) fl_X6_append_127 rfl rfl ?_
  refine j_top C (_) hX1.2.2.2.2.2.1 ?_
  refine j_iconst C dX6_append_47 (v := nI 1) (by decide) ?_
  refine j_iaddN C dX6_append_48 ?_
  refine j_putf C dX6_append_49 rfl (by decide) (T := TX6) rfl in_X6_append_X6 tyX6 tyX6_ok nmX6 (k := 4) (by decide) fl_X6_append_127 rfl rfl (by decide +kernel) (Nat.le_of_ble_eq_true rfl) rfl ?_
  refine j_aload_n C dX6_append_52 rfl ?_
  refine j_getf C dX6_append_53 rfl (by decide) (T := TX6) rfl in_X6_append_X6 (k := 4) (by decide) fl_X6_append_127 rfl rfl ?_
  refine j_top C (_) setV_eq ?_
  exact j_ireturn C hret dX6_append_56 ⟨rfl, hX1.app hn ⟨h1, h2⟩, ((Fr.V (js := noJ) (ks := fun k => k = 5) rfl).off.tr (Off.R (by unfold inM; omega))).tr (Off.V (by unfold inM; omega)), (setV_nk (by decide)).trans setV_eq⟩

set_option maxHeartbeats 4000000 in
set_option maxRecDepth 100000 in
theorem cm_clearBuffer {l : Launch} {G : GG} {M : MM} {S : SS} (hX : Xm M S) (hO : OkS S)  : Ct l G yX6_clearBuffer wsX6_clearBuffer 2 ([.ref (G.2.2 84)] : List Value) M (fun v9 M9 => v9 = some (.int (nI S.2.2.2.2.2.1)) ∧ Xm M9 (setT S 0 S.2.2.2.2.2.2) ∧ Off M M9 inM ∧ M9.2.1 84 5 = nI 0) := by
  have hS := hX.1
  have hW := hO.1
  refine Ct.of (cc := cX6_clearBuffer) (maxL := 2) (ret := (some .int)) (lv := [(0, .ref (G.2.2 84))]) (by decide) rfl rfl (Nat.le_of_ble_eq_true rfl) ?_
  intro pg ev sg mm bl mt cd AZ C hret
  refine j_aload_n C dX6_clearBuffer_0 rfl ?_
  refine j_iconst C dX6_clearBuffer_1 (v := nI 0) (by decide) ?_
  refine j_putf C dX6_clearBuffer_2 rfl (by decide) (T := TX6) rfl in_X6_clearBuffer_X6 tyX6 tyX6_ok nmX6 (k := 5) (by decide) fl_X6_clearBuffer_31 rfl rfl (by decide +kernel) (Nat.le_of_ble_eq_true rfl) rfl ?_
  refine j_aload_n C dX6_clearBuffer_5 rfl ?_
  refine j_getf C dX6_clearBuffer_6 rfl (by decide) (T := TX6) rfl in_X6_clearBuffer_X6 (k := 4) (by decide) fl_X6_clearBuffer_127 rfl rfl ?_
  refine j_top C (_) ((setV_nk (by decide)).trans hX.2.2.2.2.2.1) ?_
  refine j_istore_n C dX6_clearBuffer_9 (by decide) ?_
  refine j_aload_n C dX6_clearBuffer_10 rfl ?_
  refine j_iconst C dX6_clearBuffer_11 (v := nI 0) (by decide) ?_
  refine j_putf C dX6_clearBuffer_12 rfl (by decide) (T := TX6) rfl in_X6_clearBuffer_X6 tyX6 tyX6_ok nmX6 (k := 4) (by decide) fl_X6_clearBuffer_127 rfl rfl (by decide +kernel) (Nat.le_of_ble_eq_true rfl) rfl ?_
  refine j_iload_n C dX6_clearBuffer_15 rfl ?_
  exact j_ireturn C hret dX6_clearBuffer_16 ⟨rfl, hX.thr.clr, (Off.V (by unfold inM; omega)).tr (Off.V (by unfold inM; omega)), (setV_nk (by decide)).trans setV_eq⟩

set_option maxHeartbeats 4000000 in
set_option maxRecDepth 100000 in
theorem cm_firstError {l : Launch} {G : GG} {M : MM} {S : SS} (hX : Xm M S) (hO : OkS S)  : Ct l G yX6_firstError wsX6_firstError 4 ([.ref (G.2.2 84)] : List Value) M (fun v9 M9 => v9 = some (.int (nI (erT S.2.2.2.2.2.1 S.2.2.2.2.2.2))) ∧ Xm M9 (S) ∧ Off M M9 inM ∧ M9.2.1 84 5 = nI 0) := by
  have hS := hX.1
  have hW := hO.1
  refine Ct.of (cc := cX6_firstError) (maxL := 1) (ret := (some .int)) (lv := [(0, .ref (G.2.2 84))]) (by decide) rfl rfl (Nat.le_of_ble_eq_true rfl) ?_
  intro pg ev sg mm bl mt cd AZ C hret
  refine j_aload_n C dX6_firstError_0 rfl ?_
  refine j_iconst C dX6_firstError_1 (v := nI 0) (by decide) ?_
  refine j_putf C dX6_firstError_2 rfl (by decide) (T := TX6) rfl in_X6_firstError_X6 tyX6 tyX6_ok nmX6 (k := 5) (by decide) fl_X6_firstError_31 rfl rfl (by decide +kernel) (Nat.le_of_ble_eq_true rfl) rfl ?_
  refine j_aload_n C dX6_firstError_5 rfl ?_
  refine j_callV C (cm_error hX.thr.2.2.2.2) dX6_firstError_6 rfl (by decide) (T := TX6) rfl gX6_firstError_X6_error rfl kd_X6_error rfl rfl (Nat.le_of_ble_eq_true rfl) ⟨by decide, by decide⟩ ⟨Nat.zero_le _, Nat.zero_le _⟩ (k_I ?_)
  exact j_ireturn C hret dX6_firstError_9 ⟨rfl, hX.thr, (Off.V (by unfold inM; omega)), setV_eq⟩

theorem isS_ok {t : Nat} (h : t < 2) : isS (nI t) = true := by
  rcases (show t = 0 ∨ t = 1 by omega) with rfl | rfl
  · decide
  · decide

set_option maxHeartbeats 4000000 in
set_option maxRecDepth 100000 in
theorem cn_keep {l : Launch} {G : GG} {M : MM} {S : SS} (hX : Xm M S) (hO : OkS S) {sl : Nat} (hs : sl < 2) : Ct l G yX6_keep wsX6_keep 3 ([.ref (G.2.2 84), .int (nI sl)] : List Value) M (fun v9 M9 => v9 = some (.int (nI (labd S.1))) ∧ Xm M9 (setSl S sl S.1) ∧ Off M M9 inM ∧ M9.2.1 84 5 = nI 0) := by
  have hS := hX.1
  have hW := hO.1
  refine Ct.of (cc := cX6_keep) (maxL := 2) (ret := (some .int)) (lv := [(0, .ref (G.2.2 84)), (1, .int (nI sl))]) (by decide) rfl rfl (Nat.le_of_ble_eq_true rfl) ?_
  intro pg ev sg mm bl mt cd AZ C hret
  refine j_aload_n C dX6_keep_0 rfl ?_
  refine j_iload_n C dX6_keep_1 rfl ?_
  refine j_callS C cm_isSlot dX6_keep_2 gX6_keep_X6_isSlot rfl ks_X6_isSlot rfl rfl (Nat.le_of_ble_eq_true rfl) ⟨by decide, by decide⟩ ⟨Nat.zero_le _, Nat.zero_le _⟩ (k_I ?_)
  refine j_top C (bI true) (congrArg bI (isS_ok hs)) ?_
  refine j_iconst C dX6_keep_5 (v := nI 1) (by decide) ?_
  refine j_top C (bI true) rfl ?_
  refine j_callV C cm_goes dX6_keep_6 rfl (by decide) (T := TX6) rfl gX6_keep_X6_goes rfl kd_X6_goes rfl rfl (Nat.le_of_ble_eq_true rfl) ⟨by decide, by decide⟩ ⟨Nat.zero_le _, Nat.zero_le _⟩ (k_I ?_)
  refine j_top C (bI true) rfl ?_
  have hX1 : Xm (setV M 84 5 (nI (thr true true))) S := hX.thr
  have hS1 := hX1.1
  refine j_if_neB C dX6_keep_9 (tgt := 14) (by decide) (fun cq9 => ?_) (fun cq9 => absurd cq9 (by decide))
  refine j_aload_n C dX6_keep_14 rfl ?_
  refine j_iconst C dX6_keep_15 (v := nI 0) (by decide) ?_
  refine j_bipush C dX6_keep_16 (v := nI 7) (by decide) ?_
  refine j_iload_n C dX6_keep_18 rfl ?_
  refine j_iaddN C dX6_keep_19 ?_
  refine j_callV C (cm_copies (fr := 0) (to := 7 + sl) (by decide) (by omega) (by omega)) dX6_keep_20 rfl (by decide) (T := TX6) rfl gX6_keep_X6_copies rfl kd_X6_copies rfl rfl (Nat.le_of_ble_eq_true rfl) ⟨by decide, by decide⟩ ⟨Nat.zero_le _, Nat.zero_le _⟩ (k_VQ fun M3 hq => ?_)
  obtain ⟨hq1, hq2⟩ := hq
  refine j_aload_n C dX6_keep_23 rfl ?_
  refine j_getf C dX6_keep_24 rfl (by decide) (T := TX6) rfl in_X6_keep_X6 (k := 2) (by decide) fl_X6_keep_13 rfl rfl ?_
  refine j_iload_n C dX6_keep_27 rfl ?_
  refine j_iconst C dX6_keep_28 (v := nI 1) (by decide) ?_
  refine j_top C (bI true) rfl ?_
  refine j_zastN C dX6_keep_29 rfl (by omega) (by decide) ?_
  have hX4 := hX1.keep hs hq1 hq2
  refine j_aload_n C dX6_keep_30 rfl ?_
  refine j_callV C (cm_labelled hX4.1 hW) dX6_keep_31 rfl (by decide) (T := TX6) rfl gX6_keep_X6_labelled rfl kd_X6_labelled rfl rfl (Nat.le_of_ble_eq_true rfl) ⟨by decide, by decide⟩ ⟨Nat.zero_le _, Nat.zero_le _⟩ (k_I ?_)
  exact j_ireturn C hret dX6_keep_34 ⟨rfl, hX4, ((Off.V (by unfold inM; omega)).tr hq2.off).tr (Off.R (by unfold inM; omega)), (hq2.2.2 5 (fun h => h)).trans setV_eq⟩

set_option maxHeartbeats 4000000 in
set_option maxRecDepth 100000 in
theorem cm_goBack {l : Launch} {G : GG} {M : MM} {S : SS} (hX : Xm M S) (hO : OkS S) {sl : Nat} (hs : sl < 2) (hf : S.2.2.2.2.1 sl = true) : Ct l G yX6_goBack wsX6_goBack 3 ([.ref (G.2.2 84), .int (nI sl)] : List Value) M (fun v9 M9 => v9 = some (.int (nI (labd (S.2.2.2.1 sl)))) ∧ Xm M9 (svW S (S.2.2.2.1 sl)) ∧ Off M M9 inM ∧ M9.2.1 84 5 = nI 0) := by
  have hS := hX.1
  have hW := hO.1
  refine Ct.of (cc := cX6_goBack) (maxL := 2) (ret := (some .int)) (lv := [(0, .ref (G.2.2 84)), (1, .int (nI sl))]) (by decide) rfl rfl (Nat.le_of_ble_eq_true rfl) ?_
  intro pg ev sg mm bl mt cd AZ C hret
  refine j_aload_n C dX6_goBack_0 rfl ?_
  refine j_iload_n C dX6_goBack_1 rfl ?_
  refine j_callS C cm_isSlot dX6_goBack_2 gX6_goBack_X6_isSlot rfl ks_X6_isSlot rfl rfl (Nat.le_of_ble_eq_true rfl) ⟨by decide, by decide⟩ ⟨Nat.zero_le _, Nat.zero_le _⟩ (k_I ?_)
  refine j_top C (bI true) (congrArg bI (isS_ok hs)) ?_
  refine j_iload_n C dX6_goBack_5 rfl ?_
  refine j_callS C cm_isSlot dX6_goBack_6 gX6_goBack_X6_isSlot rfl ks_X6_isSlot rfl rfl (Nat.le_of_ble_eq_true rfl) ⟨by decide, by decide⟩ ⟨Nat.zero_le _, Nat.zero_le _⟩ (k_I ?_)
  refine j_top C (bI true) (congrArg bI (isS_ok hs)) ?_
  refine j_if_eqB C dX6_goBack_9 (tgt := 25) (by decide) (fun cq9 => absurd cq9 (by decide)) (fun cq9 => ?_)
  refine j_aload_n C dX6_goBack_12 rfl ?_
  refine j_getf C dX6_goBack_13 rfl (by decide) (T := TX6) rfl in_X6_goBack_X6 (k := 2) (by decide) fl_X6_goBack_13 rfl rfl ?_
  refine j_iload_n C dX6_goBack_16 rfl ?_
  refine j_zaldN C dX6_goBack_17 rfl (by omega) (by decide) ?_
  refine j_top C _ ((hX.2.2.1 sl hs).trans (congrArg bI hf)) ?_
  refine j_if_eqB C dX6_goBack_18 (tgt := 25) (by decide) (fun cq18 => absurd cq18 (by decide)) (fun cq18 => ?_)
  refine j_iconst C dX6_goBack_21 (v := nI 1) (by decide) ?_
  refine j_top C (bI true) rfl ?_
  refine j_goto C dX6_goBack_22 (tgt := 26) (by decide) ?_
  refine j_callV C cm_goes dX6_goBack_26 rfl (by decide) (T := TX6) rfl gX6_goBack_X6_goes rfl kd_X6_goes rfl rfl (Nat.le_of_ble_eq_true rfl) ⟨by decide, by decide⟩ ⟨Nat.zero_le _, Nat.zero_le _⟩ (k_I ?_)
  refine j_top C (bI true) rfl ?_
  have hX1 : Xm (setV M 84 5 (nI (thr true true))) S := hX.thr
  have hS1 := hX1.1
  refine j_if_neB C dX6_goBack_29 (tgt := 34) (by decide) (fun cq29 => ?_) (fun cq29 => absurd cq29 (by decide))
  refine j_aload_n C dX6_goBack_34 rfl ?_
  refine j_callV C (cm_saves hX1.2.1 hX1.1) dX6_goBack_35 rfl (by decide) (T := TX6) rfl gX6_goBack_X6_saves rfl kd_X6_saves rfl rfl (Nat.le_of_ble_eq_true rfl) ⟨by decide, by decide⟩ ⟨Nat.zero_le _, Nat.zero_le _⟩ (k_VQ fun M3 hq => ?_)
  obtain ⟨hm, ho⟩ := hq
  have hX3 := hX1.save hm ho
  have hS3 : Sm M3 0 S.1 := hX3.1
  refine j_aload_n C dX6_goBack_38 rfl ?_
  refine j_bipush C dX6_goBack_39 (v := nI 7) (by decide) ?_
  refine j_iload_n C dX6_goBack_41 rfl ?_
  refine j_iaddN C dX6_goBack_42 ?_
  refine j_iconst C dX6_goBack_43 (v := nI 0) (by decide) ?_
  refine j_callV C (cm_copies (fr := 7 + sl) (to := 0) (by omega) (by decide) (by omega)) dX6_goBack_44 rfl (by decide) (T := TX6) rfl gX6_goBack_X6_copies rfl kd_X6_copies rfl rfl (Nat.le_of_ble_eq_true rfl) ⟨by decide, by decide⟩ ⟨Nat.zero_le _, Nat.zero_le _⟩ (k_VQ fun M4 hq => ?_)
  obtain ⟨hq1, hq2⟩ := hq
  have hS4 : Sm M4 0 (S.2.2.2.1 sl) := Sm_copy (fr := 7 + sl) (hX3.2.2.2.1 sl hs hf) hq1
  have hF4 : Fr M3 M4 js0 noJ := hq2.mono (fun a ha => by unfold js0; omega) (fun a h => h)
  refine j_aload_n C dX6_goBack_47 rfl ?_
  refine j_callV C (cm_labelled hS4 (hO.2.2 sl hs hf)) dX6_goBack_48 rfl (by decide) (T := TX6) rfl gX6_goBack_X6_labelled rfl kd_X6_labelled rfl rfl (Nat.le_of_ble_eq_true rfl) ⟨by decide, by decide⟩ ⟨Nat.zero_le _, Nat.zero_le _⟩ (k_I ?_)
  exact j_ireturn C hret dX6_goBack_51 ⟨rfl, hX3.cur (ks := noJ) hS4 hF4 (fun h => h) (fun h => h), ((Fr.V (js := noJ) (ks := fun k => k = 5) rfl).off.tr ho.off).tr hF4.off, (hF4.2.2 5 (fun h => h)).trans ((ho.2.2 5 (by unfold k1; omega)).trans setV_eq)⟩

set_option maxHeartbeats 4000000 in
set_option maxRecDepth 100000 in
theorem cm_undo {l : Launch} {G : GG} {M : MM} {S : SS} (hX : Xm M S) (hO : OkS S) (h0 : 0 < S.2.1) : Ct l G yX6_undo wsX6_undo 3 ([.ref (G.2.2 84)] : List Value) M (fun v9 M9 => v9 = some (.int (nI (S.2.1 - 1))) ∧ Xm M9 (popS S) ∧ Off M M9 inM ∧ M9.2.1 84 5 = nI 0) := by
  have hS := hX.1
  have hW := hO.1
  refine Ct.of (cc := cX6_undo) (maxL := 1) (ret := (some .int)) (lv := [(0, .ref (G.2.2 84))]) (by decide) rfl rfl (Nat.le_of_ble_eq_true rfl) ?_
  intro pg ev sg mm bl mt cd AZ C hret
  refine j_aload_n C dX6_undo_0 rfl ?_
  refine j_aload_n C dX6_undo_1 rfl ?_
  refine j_getf C dX6_undo_2 rfl (by decide) (T := TX6) rfl in_X6_undo_X6 (k := 1) (by decide) fl_X6_undo_35 rfl rfl ?_
  refine j_top C (_) hX.2.1.2.1 ?_
  refine j_if_leN C dX6_undo_5 (tgt := 12) (by decide) (by have := hX.2.1.1; omega) (fun cq5 => absurd cq5 (by omega)) (fun cq5 => ?_)
  refine j_iconst C dX6_undo_8 (v := nI 1) (by decide) ?_
  refine j_top C (bI true) rfl ?_
  refine j_goto C dX6_undo_9 (tgt := 13) (by decide) ?_
  refine j_iconst C dX6_undo_13 (v := nI 1) (by decide) ?_
  refine j_top C (bI true) rfl ?_
  refine j_callV C cm_goes dX6_undo_14 rfl (by decide) (T := TX6) rfl gX6_undo_X6_goes rfl kd_X6_goes rfl rfl (Nat.le_of_ble_eq_true rfl) ⟨by decide, by decide⟩ ⟨Nat.zero_le _, Nat.zero_le _⟩ (k_I ?_)
  refine j_top C (bI true) rfl ?_
  have hX1 : Xm (setV M 84 5 (nI (thr true true))) S := hX.thr
  have hS1 := hX1.1
  refine j_if_neB C dX6_undo_17 (tgt := 22) (by decide) (fun cq17 => ?_) (fun cq17 => absurd cq17 (by decide))
  refine j_aload_n C dX6_undo_22 rfl ?_
  refine j_aload_n C dX6_undo_23 rfl ?_
  refine j_getf C dX6_undo_24 rfl (by decide) (T := TX6) rfl in_X6_undo_X6 (k := 1) (by decide) fl_X6_undo_35 rfl rfl ?_
  refine j_top C (_) hX1.2.1.2.1 ?_
  refine j_iconst C dX6_undo_27 (v := nI 0) (by decide) ?_
  refine j_callV C (cm_copies (fr := S.2.1) (to := 0) (by have := hX.2.1.1; omega) (by decide) (by omega)) dX6_undo_28 rfl (by decide) (T := TX6) rfl gX6_undo_X6_copies rfl kd_X6_copies rfl rfl (Nat.le_of_ble_eq_true rfl) ⟨by decide, by decide⟩ ⟨Nat.zero_le _, Nat.zero_le _⟩ (k_VQ fun M3 hq => ?_)
  obtain ⟨hq1, hq2⟩ := hq
  have hX4 := hX1.pop h0 hq1 hq2
  refine j_aload_n C dX6_undo_31 rfl ?_
  refine j_dup C dX6_undo_32 rfl ?_
  refine j_getf C dX6_undo_33 rfl (by decide) (T := TX6) rfl in_X6_undo_X6 (k := 1) (by decide) fl_X6_undo_35 rfl rfl ?_
  refine j_top C (_) ((hq2.2.2 1 (fun h => h)).trans hX1.2.1.2.1) ?_
  refine j_iconst C dX6_undo_36 (v := nI 1) (by decide) ?_
  refine j_isubN C dX6_undo_37 (by omega) ?_
  refine j_putf C dX6_undo_38 rfl (by decide) (T := TX6) rfl in_X6_undo_X6 tyX6 tyX6_ok nmX6 (k := 1) (by decide) fl_X6_undo_35 rfl rfl (by decide +kernel) (Nat.le_of_ble_eq_true rfl) rfl ?_
  refine j_aload_n C dX6_undo_41 rfl ?_
  refine j_getf C dX6_undo_42 rfl (by decide) (T := TX6) rfl in_X6_undo_X6 (k := 1) (by decide) fl_X6_undo_35 rfl rfl ?_
  refine j_top C (_) setV_eq ?_
  exact j_ireturn C hret dX6_undo_45 ⟨rfl, hX4, ((Off.V (by unfold inM; omega)).tr hq2.off).tr (Off.V (by unfold inM; omega)), (setV_nk (by decide)).trans ((hq2.2.2 5 (fun h => h)).trans setV_eq)⟩

set_option maxHeartbeats 4000000 in
set_option maxRecDepth 100000 in
theorem cm_potOf {l : Launch} {G : GG} {M : MM} {S : SS} (hX : Xm M S) (hO : OkS S) {i k : Nat} (hi : i < 8) (hk : k ≤ 4) : Ct l G yX6_potOf wsX6_potOf 8 ([.ref (G.2.2 84), .int (nI i), .int (nI k)] : List Value) M (fun v9 M9 => v9 = some (.int (ofP S.1 i k)) ∧ Xm M9 (S) ∧ Off M M9 inM ∧ M9.2.1 84 5 = nI 0) := by
  have hS := hX.1
  have hW := hO.1
  refine Ct.of (cc := cX6_potOf) (maxL := 3) (ret := (some .int)) (lv := [(0, .ref (G.2.2 84)), (1, .int (nI i)), (2, .int (nI k))]) (by decide) rfl rfl (Nat.le_of_ble_eq_true rfl) ?_
  intro pg ev sg mm bl mt cd AZ C hret
  refine j_aload_n C dX6_potOf_0 rfl ?_
  refine j_iload_n C dX6_potOf_1 rfl ?_
  refine j_callS C cm_isPot dX6_potOf_2 gX6_potOf_X6_isPot rfl ks_X6_isPot rfl rfl (Nat.le_of_ble_eq_true rfl) ⟨by decide, by decide⟩ ⟨Nat.zero_le _, Nat.zero_le _⟩ (k_I ?_)
  refine j_top C (bI true) (congrArg bI (inI_N (by omega) (by omega) (by decide))) ?_
  refine j_iload_n C dX6_potOf_5 rfl ?_
  refine j_iconst C dX6_potOf_6 (v := nI 0) (by decide) ?_
  refine j_iconst C dX6_potOf_7 (v := nI 4) (by decide) ?_
  refine j_callS C cm_in dX6_potOf_8 gX6_potOf_X6_in rfl ks_X6_in rfl rfl (Nat.le_of_ble_eq_true rfl) ⟨by decide, by decide⟩ ⟨Nat.zero_le _, Nat.zero_le _⟩ (k_I ?_)
  refine j_top C (bI true) (congrArg bI (inI_N (by omega) (by omega) (by decide))) ?_
  refine j_callV C cm_goes dX6_potOf_11 rfl (by decide) (T := TX6) rfl gX6_potOf_X6_goes rfl kd_X6_goes rfl rfl (Nat.le_of_ble_eq_true rfl) ⟨by decide, by decide⟩ ⟨Nat.zero_le _, Nat.zero_le _⟩ (k_I ?_)
  refine j_top C (bI true) rfl ?_
  have hX1 : Xm (setV M 84 5 (nI (thr true true))) S := hX.thr
  have hS1 := hX1.1
  refine j_if_eqB C dX6_potOf_14 (tgt := 26) (by decide) (fun cq14 => absurd cq14 (by decide)) (fun cq14 => ?_)
  refine j_aload_n C dX6_potOf_17 rfl ?_
  refine j_iload_n C dX6_potOf_18 rfl ?_
  refine j_iload_n C dX6_potOf_19 rfl ?_
  refine j_callV C (cm_ofPot hS1 hW hi hk) dX6_potOf_20 rfl (by decide) (T := TX6) rfl gX6_potOf_X6_ofPot rfl kd_X6_ofPot rfl rfl (Nat.le_of_ble_eq_true rfl) ⟨by decide, by decide⟩ ⟨Nat.zero_le _, Nat.zero_le _⟩ (k_I ?_)
  refine j_goto C dX6_potOf_23 (tgt := 27) (by decide) ?_
  exact j_ireturn C hret dX6_potOf_27 ⟨rfl, hX.thr, (Off.V (by unfold inM; omega)), setV_eq⟩

set_option maxHeartbeats 4000000 in
set_option maxRecDepth 100000 in
theorem cm_seen {l : Launch} {G : GG} {M : MM} {S : SS} (hX : Xm M S) (hO : OkS S) {p i : Nat} (hp : p < 4) (hi : i < 8) : Ct l G yX6_seen wsX6_seen 3 ([.ref (G.2.2 84), .int (nI p), .int (nI i)] : List Value) M (fun v9 M9 => v9 = some (.int (nI (sen S.1 p i))) ∧ Xm M9 (S) ∧ Off M M9 inM ∧ M9.2.1 84 5 = nI 0) := by
  have hS := hX.1
  have hW := hO.1
  refine Ct.of (cc := cX6_seen) (maxL := 3) (ret := (some .int)) (lv := [(0, .ref (G.2.2 84)), (1, .int (nI p)), (2, .int (nI i))]) (by decide) rfl rfl (Nat.le_of_ble_eq_true rfl) ?_
  intro pg ev sg mm bl mt cd AZ C hret
  refine j_aload_n C dX6_seen_0 rfl ?_
  refine j_iload_n C dX6_seen_1 rfl ?_
  refine j_callS C cm_isPainter dX6_seen_2 gX6_seen_X6_isPainter rfl ks_X6_isPainter rfl rfl (Nat.le_of_ble_eq_true rfl) ⟨by decide, by decide⟩ ⟨Nat.zero_le _, Nat.zero_le _⟩ (k_I ?_)
  refine j_top C (bI true) (congrArg bI (inI_N (by omega) (by omega) (by decide))) ?_
  refine j_if_eqB C dX6_seen_5 (tgt := 19) (by decide) (fun cq5 => absurd cq5 (by decide)) (fun cq5 => ?_)
  refine j_iload_n C dX6_seen_8 rfl ?_
  refine j_callS C cm_isPot dX6_seen_9 gX6_seen_X6_isPot rfl ks_X6_isPot rfl rfl (Nat.le_of_ble_eq_true rfl) ⟨by decide, by decide⟩ ⟨Nat.zero_le _, Nat.zero_le _⟩ (k_I ?_)
  refine j_top C (bI true) (congrArg bI (inI_N (by omega) (by omega) (by decide))) ?_
  refine j_if_eqB C dX6_seen_12 (tgt := 19) (by decide) (fun cq12 => absurd cq12 (by decide)) (fun cq12 => ?_)
  refine j_iconst C dX6_seen_15 (v := nI 1) (by decide) ?_
  refine j_top C (bI true) rfl ?_
  refine j_goto C dX6_seen_16 (tgt := 20) (by decide) ?_
  refine j_iconst C dX6_seen_20 (v := nI 1) (by decide) ?_
  refine j_top C (bI true) rfl ?_
  refine j_callV C cm_goes dX6_seen_21 rfl (by decide) (T := TX6) rfl gX6_seen_X6_goes rfl kd_X6_goes rfl rfl (Nat.le_of_ble_eq_true rfl) ⟨by decide, by decide⟩ ⟨Nat.zero_le _, Nat.zero_le _⟩ (k_I ?_)
  refine j_top C (bI true) rfl ?_
  have hX1 : Xm (setV M 84 5 (nI (thr true true))) S := hX.thr
  have hS1 := hX1.1
  refine j_if_eqB C dX6_seen_24 (tgt := 36) (by decide) (fun cq24 => absurd cq24 (by decide)) (fun cq24 => ?_)
  refine j_aload_n C dX6_seen_27 rfl ?_
  refine j_iload_n C dX6_seen_28 rfl ?_
  refine j_iload_n C dX6_seen_29 rfl ?_
  refine j_callV C (cm_seenBy hS1 hW hp hi) dX6_seen_30 rfl (by decide) (T := TX6) rfl gX6_seen_X6_seenBy rfl kd_X6_seenBy rfl rfl (Nat.le_of_ble_eq_true rfl) ⟨by decide, by decide⟩ ⟨Nat.zero_le _, Nat.zero_le _⟩ (k_I ?_)
  refine j_goto C dX6_seen_33 (tgt := 37) (by decide) ?_
  exact j_ireturn C hret dX6_seen_37 ⟨rfl, hX.thr, (Off.V (by unfold inM; omega)), setV_eq⟩

set_option maxHeartbeats 4000000 in
set_option maxRecDepth 100000 in
theorem cm_painterOf {l : Launch} {G : GG} {M : MM} {S : SS} (hX : Xm M S) (hO : OkS S) {p k : Nat} (hp : p < 4) (hk : k ≤ 6) : Ct l G yX6_painterOf wsX6_painterOf 9 ([.ref (G.2.2 84), .int (nI p), .int (nI k)] : List Value) M (fun v9 M9 => v9 = some (.int (ofN S.1 p k)) ∧ Xm M9 (S) ∧ Off M M9 inM ∧ M9.2.1 84 5 = nI 0) := by
  have hS := hX.1
  have hW := hO.1
  refine Ct.of (cc := cX6_painterOf) (maxL := 3) (ret := (some .int)) (lv := [(0, .ref (G.2.2 84)), (1, .int (nI p)), (2, .int (nI k))]) (by decide) rfl rfl (Nat.le_of_ble_eq_true rfl) ?_
  intro pg ev sg mm bl mt cd AZ C hret
  refine j_aload_n C dX6_painterOf_0 rfl ?_
  refine j_iload_n C dX6_painterOf_1 rfl ?_
  refine j_callS C cm_isPainter dX6_painterOf_2 gX6_painterOf_X6_isPainter rfl ks_X6_isPainter rfl rfl (Nat.le_of_ble_eq_true rfl) ⟨by decide, by decide⟩ ⟨Nat.zero_le _, Nat.zero_le _⟩ (k_I ?_)
  refine j_top C (bI true) (congrArg bI (inI_N (by omega) (by omega) (by decide))) ?_
  refine j_iload_n C dX6_painterOf_5 rfl ?_
  refine j_iconst C dX6_painterOf_6 (v := nI 0) (by decide) ?_
  refine j_bipush C dX6_painterOf_7 (v := nI 6) (by decide) ?_
  refine j_callS C cm_in dX6_painterOf_9 gX6_painterOf_X6_in rfl ks_X6_in rfl rfl (Nat.le_of_ble_eq_true rfl) ⟨by decide, by decide⟩ ⟨Nat.zero_le _, Nat.zero_le _⟩ (k_I ?_)
  refine j_top C (bI true) (congrArg bI (inI_N (by omega) (by omega) (by decide))) ?_
  refine j_callV C cm_goes dX6_painterOf_12 rfl (by decide) (T := TX6) rfl gX6_painterOf_X6_goes rfl kd_X6_goes rfl rfl (Nat.le_of_ble_eq_true rfl) ⟨by decide, by decide⟩ ⟨Nat.zero_le _, Nat.zero_le _⟩ (k_I ?_)
  refine j_top C (bI true) rfl ?_
  have hX1 : Xm (setV M 84 5 (nI (thr true true))) S := hX.thr
  have hS1 := hX1.1
  refine j_if_eqB C dX6_painterOf_15 (tgt := 27) (by decide) (fun cq15 => absurd cq15 (by decide)) (fun cq15 => ?_)
  refine j_aload_n C dX6_painterOf_18 rfl ?_
  refine j_iload_n C dX6_painterOf_19 rfl ?_
  refine j_iload_n C dX6_painterOf_20 rfl ?_
  refine j_callV C (cm_ofPainter hS1 hW hp hk) dX6_painterOf_21 rfl (by decide) (T := TX6) rfl gX6_painterOf_X6_ofPainter rfl kd_X6_ofPainter rfl rfl (Nat.le_of_ble_eq_true rfl) ⟨by decide, by decide⟩ ⟨Nat.zero_le _, Nat.zero_le _⟩ (k_I ?_)
  refine j_goto C dX6_painterOf_24 (tgt := 28) (by decide) ?_
  exact j_ireturn C hret dX6_painterOf_28 ⟨rfl, hX.thr, (Off.V (by unfold inM; omega)), setV_eq⟩

set_option maxHeartbeats 4000000 in
set_option maxRecDepth 100000 in
theorem cn_apart {l : Launch} {G : GG} {M : MM} {S : SS} (hX : Xm M S) (hO : OkS S) {p i j : Nat} (hp : p < 4) (hi : i < 8) (hj : j < 8) : Ct l G yX6_apart wsX6_apart 6 ([.ref (G.2.2 84), .int (nI p), .int (nI i), .int (nI j)] : List Value) M (fun v9 M9 => v9 = some (.int (bI (ap S.1 p i j))) ∧ Xm M9 (S) ∧ Off M M9 inM ∧ M9.2.1 84 5 = nI 0) := by
  have hS := hX.1
  have hW := hO.1
  refine Ct.of (cc := cX6_apart) (maxL := 4) (ret := (some .int)) (lv := [(0, .ref (G.2.2 84)), (1, .int (nI p)), (2, .int (nI i)), (3, .int (nI j))]) (by decide) rfl rfl (Nat.le_of_ble_eq_true rfl) ?_
  intro pg ev sg mm bl mt cd AZ C hret
  refine j_aload_n C dX6_apart_0 rfl ?_
  refine j_iload_n C dX6_apart_1 rfl ?_
  refine j_callS C cm_isPainter dX6_apart_2 gX6_apart_X6_isPainter rfl ks_X6_isPainter rfl rfl (Nat.le_of_ble_eq_true rfl) ⟨by decide, by decide⟩ ⟨Nat.zero_le _, Nat.zero_le _⟩ (k_I ?_)
  refine j_top C (bI true) (congrArg bI (inI_N (by omega) (by omega) (by decide))) ?_
  refine j_if_eqB C dX6_apart_5 (tgt := 26) (by decide) (fun cq5 => absurd cq5 (by decide)) (fun cq5 => ?_)
  refine j_iload_n C dX6_apart_8 rfl ?_
  refine j_callS C cm_isPot dX6_apart_9 gX6_apart_X6_isPot rfl ks_X6_isPot rfl rfl (Nat.le_of_ble_eq_true rfl) ⟨by decide, by decide⟩ ⟨Nat.zero_le _, Nat.zero_le _⟩ (k_I ?_)
  refine j_top C (bI true) (congrArg bI (inI_N (by omega) (by omega) (by decide))) ?_
  refine j_if_eqB C dX6_apart_12 (tgt := 26) (by decide) (fun cq12 => absurd cq12 (by decide)) (fun cq12 => ?_)
  refine j_iload_n C dX6_apart_15 rfl ?_
  refine j_callS C cm_isPot dX6_apart_16 gX6_apart_X6_isPot rfl ks_X6_isPot rfl rfl (Nat.le_of_ble_eq_true rfl) ⟨by decide, by decide⟩ ⟨Nat.zero_le _, Nat.zero_le _⟩ (k_I ?_)
  refine j_top C (bI true) (congrArg bI (inI_N (by omega) (by omega) (by decide))) ?_
  refine j_if_eqB C dX6_apart_19 (tgt := 26) (by decide) (fun cq19 => absurd cq19 (by decide)) (fun cq19 => ?_)
  refine j_iconst C dX6_apart_22 (v := nI 1) (by decide) ?_
  refine j_top C (bI true) rfl ?_
  refine j_goto C dX6_apart_23 (tgt := 27) (by decide) ?_
  refine j_iconst C dX6_apart_27 (v := nI 1) (by decide) ?_
  refine j_top C (bI true) rfl ?_
  refine j_callV C cm_goes dX6_apart_28 rfl (by decide) (T := TX6) rfl gX6_apart_X6_goes rfl kd_X6_goes rfl rfl (Nat.le_of_ble_eq_true rfl) ⟨by decide, by decide⟩ ⟨Nat.zero_le _, Nat.zero_le _⟩ (k_I ?_)
  refine j_top C (bI true) rfl ?_
  have hX1 : Xm (setV M 84 5 (nI (thr true true))) S := hX.thr
  have hS1 := hX1.1
  refine j_if_eqB C dX6_apart_31 (tgt := 48) (by decide) (fun cq31 => absurd cq31 (by decide)) (fun cq31 => ?_)
  refine j_aload_n C dX6_apart_34 rfl ?_
  refine j_iload_n C dX6_apart_35 rfl ?_
  refine j_iload_n C dX6_apart_36 rfl ?_
  refine j_iload_n C dX6_apart_37 rfl ?_
  refine j_callV C (cm_areApart hS1 hW hp hi hj) dX6_apart_38 rfl (by decide) (T := TX6) rfl gX6_apart_X6_areApart rfl kd_X6_areApart rfl rfl (Nat.le_of_ble_eq_true rfl) ⟨by decide, by decide⟩ ⟨Nat.zero_le _, Nat.zero_le _⟩ (k_I ?_)
  refine j_if_eqB C dX6_apart_41 (tgt := 48) (by decide) (fun cq41 => ?_) (fun cq41 => ?_)
  · refine j_iconst C dX6_apart_48 (v := nI 0) (by decide) ?_
    refine j_top C (bI (ap S.1 p i j)) (by rw [cq41]; rfl) ?_
    exact j_ireturn C hret dX6_apart_49 ⟨rfl, hX.thr, (Off.V (by unfold inM; omega)), setV_eq⟩
  · refine j_iconst C dX6_apart_44 (v := nI 1) (by decide) ?_
    refine j_top C (bI (ap S.1 p i j)) (by rw [cq41]; rfl) ?_
    refine j_goto C dX6_apart_45 (tgt := 49) (by decide) ?_
    exact j_ireturn C hret dX6_apart_49 ⟨rfl, hX.thr, (Off.V (by unfold inM; omega)), setV_eq⟩

set_option maxHeartbeats 4000000 in
set_option maxRecDepth 100000 in
theorem cm_chartOf {l : Launch} {G : GG} {M : MM} {S : SS} (hX : Xm M S) (hO : OkS S) {ch k : Nat} (hc : ch < S.1 44) (hk : k ≤ 2) : Ct l G yX6_chartOf wsX6_chartOf 9 ([.ref (G.2.2 84), .int (nI ch), .int (nI k)] : List Value) M (fun v9 M9 => v9 = some (.int (ofC S.1 ch k)) ∧ Xm M9 (S) ∧ Off M M9 inM ∧ M9.2.1 84 5 = nI 0) := by
  have hS := hX.1
  have hW := hO.1
  have h44 := hW.2.2.1
  refine Ct.of (cc := cX6_chartOf) (maxL := 3) (ret := (some .int)) (lv := [(0, .ref (G.2.2 84)), (1, .int (nI ch)), (2, .int (nI k))]) (by decide) rfl rfl (Nat.le_of_ble_eq_true rfl) ?_
  intro pg ev sg mm bl mt cd AZ C hret
  refine j_aload_n C dX6_chartOf_0 rfl ?_
  refine j_aload_n C dX6_chartOf_1 rfl ?_
  refine j_iload_n C dX6_chartOf_2 rfl ?_
  refine j_callV C (cm_isChart hS hW) dX6_chartOf_3 rfl (by decide) (T := TX6) rfl gX6_chartOf_X6_isChart rfl kd_X6_isChart rfl rfl (Nat.le_of_ble_eq_true rfl) ⟨by decide, by decide⟩ ⟨Nat.zero_le _, Nat.zero_le _⟩ (k_I ?_)
  refine j_top C (bI true) (congrArg bI (isC_t hc h44)) ?_
  refine j_iload_n C dX6_chartOf_6 rfl ?_
  refine j_iconst C dX6_chartOf_7 (v := nI 0) (by decide) ?_
  refine j_iconst C dX6_chartOf_8 (v := nI 2) (by decide) ?_
  refine j_callS C cm_in dX6_chartOf_9 gX6_chartOf_X6_in rfl ks_X6_in rfl rfl (Nat.le_of_ble_eq_true rfl) ⟨by decide, by decide⟩ ⟨Nat.zero_le _, Nat.zero_le _⟩ (k_I ?_)
  refine j_top C (bI true) (congrArg bI (inI_N (by omega) (by omega) (by decide))) ?_
  refine j_callV C cm_goes dX6_chartOf_12 rfl (by decide) (T := TX6) rfl gX6_chartOf_X6_goes rfl kd_X6_goes rfl rfl (Nat.le_of_ble_eq_true rfl) ⟨by decide, by decide⟩ ⟨Nat.zero_le _, Nat.zero_le _⟩ (k_I ?_)
  refine j_top C (bI true) rfl ?_
  have hX1 : Xm (setV M 84 5 (nI (thr true true))) S := hX.thr
  have hS1 := hX1.1
  refine j_if_eqB C dX6_chartOf_15 (tgt := 27) (by decide) (fun cq15 => absurd cq15 (by decide)) (fun cq15 => ?_)
  refine j_aload_n C dX6_chartOf_18 rfl ?_
  refine j_iload_n C dX6_chartOf_19 rfl ?_
  refine j_iload_n C dX6_chartOf_20 rfl ?_
  refine j_callV C (cm_ofChart hS1 hW (by omega) hk) dX6_chartOf_21 rfl (by decide) (T := TX6) rfl gX6_chartOf_X6_ofChart rfl kd_X6_ofChart rfl rfl (Nat.le_of_ble_eq_true rfl) ⟨by decide, by decide⟩ ⟨Nat.zero_le _, Nat.zero_le _⟩ (k_I ?_)
  refine j_goto C dX6_chartOf_24 (tgt := 28) (by decide) ?_
  exact j_ireturn C hret dX6_chartOf_28 ⟨rfl, hX.thr, (Off.V (by unfold inM; omega)), setV_eq⟩

set_option maxHeartbeats 4000000 in
set_option maxRecDepth 100000 in
theorem cm_count {l : Launch} {G : GG} {M : MM} {S : SS} (hX : Xm M S) (hO : OkS S) {k : Nat} (hk : k ≤ 7) : Ct l G yX6_count wsX6_count 10 ([.ref (G.2.2 84), .int (nI k)] : List Value) M (fun v9 M9 => v9 = some (.int (cnt8 S k)) ∧ Xm M9 (S) ∧ Off M M9 inM ∧ M9.2.1 84 5 = nI 0) := by
  have hS := hX.1
  have hW := hO.1
  refine Ct.of (cc := cX6_count) (maxL := 2) (ret := (some .int)) (lv := [(0, .ref (G.2.2 84)), (1, .int (nI k))]) (by decide) rfl rfl (Nat.le_of_ble_eq_true rfl) ?_
  intro pg ev sg mm bl mt cd AZ C hret
  refine j_aload_n C dX6_count_0 rfl ?_
  refine j_iload_n C dX6_count_1 rfl ?_
  refine j_iconst C dX6_count_2 (v := nI 0) (by decide) ?_
  refine j_bipush C dX6_count_3 (v := nI 7) (by decide) ?_
  refine j_callS C cm_in dX6_count_5 gX6_count_X6_in rfl ks_X6_in rfl rfl (Nat.le_of_ble_eq_true rfl) ⟨by decide, by decide⟩ ⟨Nat.zero_le _, Nat.zero_le _⟩ (k_I ?_)
  refine j_top C (bI true) (congrArg bI (inI_N (by omega) (by omega) (by decide))) ?_
  refine j_iconst C dX6_count_8 (v := nI 1) (by decide) ?_
  refine j_top C (bI true) rfl ?_
  refine j_callV C cm_goes dX6_count_9 rfl (by decide) (T := TX6) rfl gX6_count_X6_goes rfl kd_X6_goes rfl rfl (Nat.le_of_ble_eq_true rfl) ⟨by decide, by decide⟩ ⟨Nat.zero_le _, Nat.zero_le _⟩ (k_I ?_)
  refine j_top C (bI true) rfl ?_
  have hX1 : Xm (setV M 84 5 (nI (thr true true))) S := hX.thr
  have hS1 := hX1.1
  refine j_if_eqB C dX6_count_12 (tgt := 23) (by decide) (fun cq12 => absurd cq12 (by decide)) (fun cq12 => ?_)
  refine j_aload_n C dX6_count_15 rfl ?_
  refine j_iload_n C dX6_count_16 rfl ?_
  refine j_callV C (cm_counted hS1 hW hX1.2.1.2.1 hk) dX6_count_17 rfl (by decide) (T := TX6) rfl gX6_count_X6_counted rfl kd_X6_counted rfl rfl (Nat.le_of_ble_eq_true rfl) ⟨by decide, by decide⟩ ⟨Nat.zero_le _, Nat.zero_le _⟩ (k_I ?_)
  refine j_goto C dX6_count_20 (tgt := 24) (by decide) ?_
  exact j_ireturn C hret dX6_count_24 ⟨rfl, hX.thr, (Off.V (by unfold inM; omega)), setV_eq⟩

set_option maxHeartbeats 4000000 in
set_option maxRecDepth 100000 in
theorem cm_ifBorrowed {l : Launch} {G : GG} {M : MM} {S : SS} (hX : Xm M S) (hO : OkS S) {p q : Nat} (hp : p < 4) (hq : q < 4) : Ct l G yX6_ifBorrowed wsX6_ifBorrowed 7 ([.ref (G.2.2 84), .int (nI p), .int (nI q)] : List Value) M (fun v9 M9 => v9 = some (.int (nI (prW S.1 p (q + 1)))) ∧ Xm M9 (S) ∧ Off M M9 inM ∧ M9.2.1 84 5 = nI 0) := by
  have hS := hX.1
  have hW := hO.1
  refine Ct.of (cc := cX6_ifBorrowed) (maxL := 3) (ret := (some .int)) (lv := [(0, .ref (G.2.2 84)), (1, .int (nI p)), (2, .int (nI q))]) (by decide) rfl rfl (Nat.le_of_ble_eq_true rfl) ?_
  intro pg ev sg mm bl mt cd AZ C hret
  refine j_aload_n C dX6_ifBorrowed_0 rfl ?_
  refine j_iload_n C dX6_ifBorrowed_1 rfl ?_
  refine j_callS C cm_isPainter dX6_ifBorrowed_2 gX6_ifBorrowed_X6_isPainter rfl ks_X6_isPainter rfl rfl (Nat.le_of_ble_eq_true rfl) ⟨by decide, by decide⟩ ⟨Nat.zero_le _, Nat.zero_le _⟩ (k_I ?_)
  refine j_top C (bI true) (congrArg bI (inI_N (by omega) (by omega) (by decide))) ?_
  refine j_if_eqB C dX6_ifBorrowed_5 (tgt := 19) (by decide) (fun cq5 => absurd cq5 (by decide)) (fun cq5 => ?_)
  refine j_iload_n C dX6_ifBorrowed_8 rfl ?_
  refine j_callS C cm_isPainter dX6_ifBorrowed_9 gX6_ifBorrowed_X6_isPainter rfl ks_X6_isPainter rfl rfl (Nat.le_of_ble_eq_true rfl) ⟨by decide, by decide⟩ ⟨Nat.zero_le _, Nat.zero_le _⟩ (k_I ?_)
  refine j_top C (bI true) (congrArg bI (inI_N (by omega) (by omega) (by decide))) ?_
  refine j_if_eqB C dX6_ifBorrowed_12 (tgt := 19) (by decide) (fun cq12 => absurd cq12 (by decide)) (fun cq12 => ?_)
  refine j_iconst C dX6_ifBorrowed_15 (v := nI 1) (by decide) ?_
  refine j_top C (bI true) rfl ?_
  refine j_goto C dX6_ifBorrowed_16 (tgt := 20) (by decide) ?_
  refine j_iconst C dX6_ifBorrowed_20 (v := nI 1) (by decide) ?_
  refine j_top C (bI true) rfl ?_
  refine j_callV C cm_goes dX6_ifBorrowed_21 rfl (by decide) (T := TX6) rfl gX6_ifBorrowed_X6_goes rfl kd_X6_goes rfl rfl (Nat.le_of_ble_eq_true rfl) ⟨by decide, by decide⟩ ⟨Nat.zero_le _, Nat.zero_le _⟩ (k_I ?_)
  refine j_top C (bI true) rfl ?_
  have hX1 : Xm (setV M 84 5 (nI (thr true true))) S := hX.thr
  have hS1 := hX1.1
  refine j_if_eqB C dX6_ifBorrowed_24 (tgt := 36) (by decide) (fun cq24 => absurd cq24 (by decide)) (fun cq24 => ?_)
  refine j_aload_n C dX6_ifBorrowed_27 rfl ?_
  refine j_iload_n C dX6_ifBorrowed_28 rfl ?_
  refine j_iload_n C dX6_ifBorrowed_29 rfl ?_
  refine j_callV C (cm_withLender hS1 hW hp hq) dX6_ifBorrowed_30 rfl (by decide) (T := TX6) rfl gX6_ifBorrowed_X6_withLender rfl kd_X6_withLender rfl rfl (Nat.le_of_ble_eq_true rfl) ⟨by decide, by decide⟩ ⟨Nat.zero_le _, Nat.zero_le _⟩ (k_I ?_)
  refine j_goto C dX6_ifBorrowed_33 (tgt := 37) (by decide) ?_
  exact j_ireturn C hret dX6_ifBorrowed_37 ⟨rfl, hX.thr, (Off.V (by unfold inM; omega)), setV_eq⟩

set_option maxHeartbeats 4000000 in
set_option maxRecDepth 100000 in
theorem cm_leastChange {l : Launch} {G : GG} {M : MM} {S : SS} (hX : Xm M S) (hO : OkS S) {p i j : Nat} {az : Nat × Nat} (hz : az = nst S.1 p i j 1000) (hp : p < 4) (hi : i < 8) (hj : j < 8) (hne : ¬ i = j) : Ct l G yX6_leastChange wsX6_leastChange 5 ([.ref (G.2.2 84), .int (nI p), .int (nI i), .int (nI j)] : List Value) M (fun v9 M9 => v9 = some (.int (lsR az)) ∧ Xm M9 (S) ∧ Off M M9 inM ∧ M9.2.1 84 5 = nI 0) := by
  have hS := hX.1
  have hW := hO.1
  refine Ct.of (cc := cX6_leastChange) (maxL := 4) (ret := (some .int)) (lv := [(0, .ref (G.2.2 84)), (1, .int (nI p)), (2, .int (nI i)), (3, .int (nI j))]) (by decide) rfl rfl (Nat.le_of_ble_eq_true rfl) ?_
  intro pg ev sg mm bl mt cd AZ C hret
  refine j_aload_n C dX6_leastChange_0 rfl ?_
  refine j_iload_n C dX6_leastChange_1 rfl ?_
  refine j_callS C cm_isPainter dX6_leastChange_2 gX6_leastChange_X6_isPainter rfl ks_X6_isPainter rfl rfl (Nat.le_of_ble_eq_true rfl) ⟨by decide, by decide⟩ ⟨Nat.zero_le _, Nat.zero_le _⟩ (k_I ?_)
  refine j_top C (bI true) (congrArg bI (inI_N (by omega) (by omega) (by decide))) ?_
  refine j_if_eqB C dX6_leastChange_5 (tgt := 26) (by decide) (fun cq5 => absurd cq5 (by decide)) (fun cq5 => ?_)
  refine j_iload_n C dX6_leastChange_8 rfl ?_
  refine j_callS C cm_isPot dX6_leastChange_9 gX6_leastChange_X6_isPot rfl ks_X6_isPot rfl rfl (Nat.le_of_ble_eq_true rfl) ⟨by decide, by decide⟩ ⟨Nat.zero_le _, Nat.zero_le _⟩ (k_I ?_)
  refine j_top C (bI true) (congrArg bI (inI_N (by omega) (by omega) (by decide))) ?_
  refine j_if_eqB C dX6_leastChange_12 (tgt := 26) (by decide) (fun cq12 => absurd cq12 (by decide)) (fun cq12 => ?_)
  refine j_iload_n C dX6_leastChange_15 rfl ?_
  refine j_callS C cm_isPot dX6_leastChange_16 gX6_leastChange_X6_isPot rfl ks_X6_isPot rfl rfl (Nat.le_of_ble_eq_true rfl) ⟨by decide, by decide⟩ ⟨Nat.zero_le _, Nat.zero_le _⟩ (k_I ?_)
  refine j_top C (bI true) (congrArg bI (inI_N (by omega) (by omega) (by decide))) ?_
  refine j_if_eqB C dX6_leastChange_19 (tgt := 26) (by decide) (fun cq19 => absurd cq19 (by decide)) (fun cq19 => ?_)
  refine j_iconst C dX6_leastChange_22 (v := nI 1) (by decide) ?_
  refine j_top C (bI true) rfl ?_
  refine j_goto C dX6_leastChange_23 (tgt := 27) (by decide) ?_
  refine j_iload_n C dX6_leastChange_27 rfl ?_
  refine j_iload_n C dX6_leastChange_28 rfl ?_
  refine j_icmp_eqN C dX6_leastChange_29 (tgt := 36) (by decide) (by omega) (by omega) (fun q => absurd q hne) (fun _ => ?_)
  refine j_iconst C dX6_leastChange_32 (v := nI 1) (by decide) ?_
  refine j_top C (bI true) rfl ?_
  refine j_goto C dX6_leastChange_33 (tgt := 37) (by decide) ?_
  refine j_callV C cm_goes dX6_leastChange_37 rfl (by decide) (T := TX6) rfl gX6_leastChange_X6_goes rfl kd_X6_goes rfl rfl (Nat.le_of_ble_eq_true rfl) ⟨by decide, by decide⟩ ⟨Nat.zero_le _, Nat.zero_le _⟩ (k_I ?_)
  refine j_top C (bI true) rfl ?_
  have hX1 : Xm (setV M 84 5 (nI (thr true true))) S := hX.thr
  have hS1 := hX1.1
  refine j_if_eqB C dX6_leastChange_40 (tgt := 53) (by decide) (fun cq40 => absurd cq40 (by decide)) (fun cq40 => ?_)
  refine j_aload_n C dX6_leastChange_43 rfl ?_
  refine j_iload_n C dX6_leastChange_44 rfl ?_
  refine j_iload_n C dX6_leastChange_45 rfl ?_
  refine j_iload_n C dX6_leastChange_46 rfl ?_
  refine j_callV C (cm_least hS1 hW hz hp hi hj) dX6_leastChange_47 rfl (by decide) (T := TX6) rfl gX6_leastChange_X6_least rfl kd_X6_least rfl rfl (Nat.le_of_ble_eq_true rfl) ⟨by decide, by decide⟩ ⟨Nat.zero_le _, Nat.zero_le _⟩ (k_IQ fun M3 hq => ?_)
  obtain ⟨hF, -⟩ := hq
  refine j_goto C dX6_leastChange_50 (tgt := 54) (by decide) ?_
  exact j_ireturn C hret dX6_leastChange_54 ⟨rfl, hX1.fr hF (fun _ h => h) (by omega) (by omega), (Off.V (by unfold inM; omega)).tr hF.off, (hF.2.2 5 (by omega)).trans setV_eq⟩

set_option maxHeartbeats 4000000 in
set_option maxRecDepth 100000 in
theorem cm_bestPainter {l : Launch} {G : GG} {M : MM} {S : SS} (hX : Xm M S) (hO : OkS S)  : Ct l G yX6_bestPainter wsX6_bestPainter 8 ([.ref (G.2.2 84)] : List Value) M (fun v9 M9 => v9 = some (.int (nI (bst S.1))) ∧ Xm M9 (S) ∧ Off M M9 inM ∧ M9.2.1 84 5 = nI 0) := by
  have hS := hX.1
  have hW := hO.1
  refine Ct.of (cc := cX6_bestPainter) (maxL := 1) (ret := (some .int)) (lv := [(0, .ref (G.2.2 84))]) (by decide) rfl rfl (Nat.le_of_ble_eq_true rfl) ?_
  intro pg ev sg mm bl mt cd AZ C hret
  refine j_aload_n C dX6_bestPainter_0 rfl ?_
  refine j_iconst C dX6_bestPainter_1 (v := nI 0) (by decide) ?_
  refine j_putf C dX6_bestPainter_2 rfl (by decide) (T := TX6) rfl in_X6_bestPainter_X6 tyX6 tyX6_ok nmX6 (k := 5) (by decide) fl_X6_bestPainter_31 rfl rfl (by decide +kernel) (Nat.le_of_ble_eq_true rfl) rfl ?_
  refine j_aload_n C dX6_bestPainter_5 rfl ?_
  refine j_callV C (cm_best hX.thr.1 hW) dX6_bestPainter_6 rfl (by decide) (T := TX6) rfl gX6_bestPainter_X6_best rfl kd_X6_best rfl rfl (Nat.le_of_ble_eq_true rfl) ⟨by decide, by decide⟩ ⟨Nat.zero_le _, Nat.zero_le _⟩ (k_I ?_)
  exact j_ireturn C hret dX6_bestPainter_9 ⟨rfl, hX.thr, (Off.V (by unfold inM; omega)), setV_eq⟩

set_option maxHeartbeats 4000000 in
set_option maxRecDepth 100000 in
theorem cm_apartShare {l : Launch} {G : GG} {M : MM} {S : SS} (hX : Xm M S) (hO : OkS S)  : Ct l G yX6_apartShare wsX6_apartShare 7 ([.ref (G.2.2 84)] : List Value) M (fun v9 M9 => v9 = some (.double (shr S.1)) ∧ Xm M9 S ∧ Off M M9 inM ∧ M9.2.1 84 5 = nI 0) := by
  have hS := hX.1
  have hW := hO.1
  refine Ct.of (cc := cX6_apartShare) (maxL := 1) (ret := (some .double)) (lv := [(0, .ref (G.2.2 84))]) (by decide) rfl rfl (Nat.le_of_ble_eq_true rfl) ?_
  intro pg ev sg mm bl mt cd AZ C hret
  refine j_aload_n C dX6_apartShare_0 rfl ?_
  refine j_iconst C dX6_apartShare_1 (v := nI 0) (by decide) ?_
  refine j_putf C dX6_apartShare_2 rfl (by decide) (T := TX6) rfl in_X6_apartShare_X6 tyX6 tyX6_ok nmX6 (k := 5) (by decide) fl_X6_apartShare_31 rfl rfl (by decide +kernel) (Nat.le_of_ble_eq_true rfl) rfl ?_
  refine j_aload_n C dX6_apartShare_5 rfl ?_
  refine j_iconst C dX6_apartShare_6 (v := nI 0) (by decide) ?_
  refine j_callV C (cm_pairs (p := 0) hX.thr.1 hW (by decide)) dX6_apartShare_7 rfl (by decide) (T := TX6) rfl gX6_apartShare_X6_pairs rfl kd_X6_pairs rfl rfl (Nat.le_of_ble_eq_true rfl) ⟨by decide, by decide⟩ ⟨Nat.zero_le _, Nat.zero_le _⟩ (k_I ?_)
  refine j_aload_n C dX6_apartShare_10 rfl ?_
  refine j_iconst C dX6_apartShare_11 (v := nI 1) (by decide) ?_
  refine j_callV C (cm_pairs (p := 1) hX.thr.1 hW (by decide)) dX6_apartShare_12 rfl (by decide) (T := TX6) rfl gX6_apartShare_X6_pairs rfl kd_X6_pairs rfl rfl (Nat.le_of_ble_eq_true rfl) ⟨by decide, by decide⟩ ⟨Nat.zero_le _, Nat.zero_le _⟩ (k_I ?_)
  refine j_iaddN C dX6_apartShare_15 ?_
  refine j_aload_n C dX6_apartShare_16 rfl ?_
  refine j_iconst C dX6_apartShare_17 (v := nI 2) (by decide) ?_
  refine j_callV C (cm_pairs (p := 2) hX.thr.1 hW (by decide)) dX6_apartShare_18 rfl (by decide) (T := TX6) rfl gX6_apartShare_X6_pairs rfl kd_X6_pairs rfl rfl (Nat.le_of_ble_eq_true rfl) ⟨by decide, by decide⟩ ⟨Nat.zero_le _, Nat.zero_le _⟩ (k_I ?_)
  refine j_iaddN C dX6_apartShare_21 ?_
  refine j_aload_n C dX6_apartShare_22 rfl ?_
  refine j_iconst C dX6_apartShare_23 (v := nI 3) (by decide) ?_
  refine j_callV C (cm_pairs (p := 3) hX.thr.1 hW (by decide)) dX6_apartShare_24 rfl (by decide) (T := TX6) rfl gX6_apartShare_X6_pairs rfl kd_X6_pairs rfl rfl (Nat.le_of_ble_eq_true rfl) ⟨by decide, by decide⟩ ⟨Nat.zero_le _, Nat.zero_le _⟩ (k_I ?_)
  refine j_iaddN C dX6_apartShare_27 ?_
  refine j_top C (nI (sumP S.1 4)) (congrArg nI (by show _ = 0 + _ + _ + _ + _; rw [Nat.zero_add])) ?_
  refine j_i2d C dX6_apartShare_28 ?_
  refine j_ldc2d C dX6_apartShare_29 cst_X6_apartShare_190 ?_
  refine j_ddiv C dX6_apartShare_32 (share_nan (sumP_le S.1)) ?_
  exact j_dreturn C hret dX6_apartShare_33 ⟨rfl, hX.thr, (Off.V (by unfold inM; omega)), setV_eq⟩
