set_option maxRecDepth 20000 in
theorem ks_L_print : yL_print.cls ≠ "java/lang/invoke/MethodHandle" ∧ yL_print.cls ≠ "java/lang/invoke/VarHandle" ∧ (parseMethodDescriptor yL_print.desc).map (fun d => d.parameters.length) = some 1 := by decide +kernel
set_option maxRecDepth 20000 in
theorem ks_L_ifBorrowed : yL_ifBorrowed.cls ≠ "java/lang/invoke/MethodHandle" ∧ yL_ifBorrowed.cls ≠ "java/lang/invoke/VarHandle" ∧ (parseMethodDescriptor yL_ifBorrowed.desc).map (fun d => d.parameters.length) = some 3 := by decide +kernel
set_option maxRecDepth 20000 in
theorem ks_L_borrow : yL_borrow.cls ≠ "java/lang/invoke/MethodHandle" ∧ yL_borrow.cls ≠ "java/lang/invoke/VarHandle" ∧ (parseMethodDescriptor yL_borrow.desc).map (fun d => d.parameters.length) = some 3 := by decide +kernel
set_option maxRecDepth 20000 in
theorem ks_L_undo : yL_undo.cls ≠ "java/lang/invoke/MethodHandle" ∧ yL_undo.cls ≠ "java/lang/invoke/VarHandle" ∧ (parseMethodDescriptor yL_undo.desc).map (fun d => d.parameters.length) = some 1 := by decide +kernel
set_option maxRecDepth 20000 in
theorem ks_L_fewest : yL_fewest.cls ≠ "java/lang/invoke/MethodHandle" ∧ yL_fewest.cls ≠ "java/lang/invoke/VarHandle" ∧ (parseMethodDescriptor yL_fewest.desc).map (fun d => d.parameters.length) = some 3 := by decide +kernel
set_option maxRecDepth 20000 in
theorem ks_L_labelAll : yL_labelAll.cls ≠ "java/lang/invoke/MethodHandle" ∧ yL_labelAll.cls ≠ "java/lang/invoke/VarHandle" ∧ (parseMethodDescriptor yL_labelAll.desc).map (fun d => d.parameters.length) = some 2 := by decide +kernel
set_option maxRecDepth 20000 in
theorem ks_L_apart : yL_apart.cls ≠ "java/lang/invoke/MethodHandle" ∧ yL_apart.cls ≠ "java/lang/invoke/VarHandle" ∧ (parseMethodDescriptor yL_apart.desc).map (fun d => d.parameters.length) = some 4 := by decide +kernel
theorem lg_self (x : Int64) : lg_cmp x x = nI 0 := by
  unfold lg_cmp
  rw [if_neg (fun h => absurd (Int64.lt_iff_toInt_lt.mp h) (Int.lt_irrefl _)), if_pos rfl]; rfl
theorem bI_1 {b : Bool} : bI b = nI 1 ↔ b = true := by cases b <;> decide
theorem bI_n1 {b : Bool} (h : ¬ bI b = nI 1) : b = false := by
  cases b with
  | true => exact absurd rfl h
  | false => rfl
theorem bI_c (b : Bool) : bI b = nI (bif b then 1 else 0) := by cases b <;> rfl
theorem bI_t {c : Prop} [i : Decidable c] (h : c) : nI 1 = bI (decide c) := by rw [decide_eq_true h]; rfl
theorem bI_f {c : Prop} [i : Decidable c] (h : ¬ c) : nI 0 = bI (decide c) := by rw [decide_eq_false h]; rfl
/-- has one of those below n been found -/
theorem th_0 {f : Nat → Bool} : nI 0 = bI (decide (0 < cntN 0 f)) := by
  rw [decide_eq_false (show ¬ 0 < cntN 0 f from Nat.lt_irrefl 0)]; rfl
theorem th_t {f : Nat → Bool} {a : Nat} (h : decide (0 < cntN a f) = true ∨ f a = true) : nI 1 = bI (decide (0 < cntN (a + 1) f)) := by
  have h2 : 0 < cntN (a + 1) f := by
    rcases h with h | h
    · exact Nat.lt_of_lt_of_le (of_decide_eq_true h) (cntN_up (Nat.le_succ a))
    · rw [cntN_t h]; omega
  rw [decide_eq_true h2]; rfl
theorem th_f {f : Nat → Bool} {a : Nat} (h : decide (0 < cntN a f) = false) (h2 : f a = false) : nI 0 = bI (decide (0 < cntN (a + 1) f)) := by
  rw [cntN_f h2, h]; rfl

set_option maxHeartbeats 4000000 in
set_option maxRecDepth 100000 in
theorem cl_borrows {l : Launch} {G : GG} {M : MM} {σ : Sg} {n : Nat} {L : List Sg} (h : Xs M σ n L) (hL : L.length ≤ 5) {p q : Nat} (hp : p < 4) (hq : q < 4) : Ct l G yL_borrows wsL_borrows 14 ([.ref (G.2.2 72), .int (nI p), .int (nI q)] : List Value) M (fun v9 M9 => v9 = some (.int (bI true)) ∧ Xs M9 σ (svN n - 1) L) := by
  have hW := h.wf
  obtain ⟨hs1, hs2, -⟩ := svN_s h.n6
  refine Ct.of (cc := cL_borrows) (maxL := 8) (ret := (some .boolean)) (lv := [(0, .ref (G.2.2 72)), (1, .int (nI p)), (2, .int (nI q))]) (by decide) rfl rfl (Nat.le_of_ble_eq_true rfl) ?_
  intro pg ev sg mm bl mt cd AZ C hret
  refine j_aload_n C dL_borrows_0 rfl ?_
  refine j_callS C (cl_print h) dL_borrows_1 gL_borrows_L_print rfl ks_L_print rfl rfl (Nat.le_of_ble_eq_true rfl) ⟨by decide, by decide⟩ ⟨Nat.zero_le _, Nat.zero_le _⟩ (k_L ?_)
  refine j_lstore_n C dL_borrows_4 (by decide) ?_
  refine j_lv (lv2 := [(0, _), (1, _), (2, _), (3, _)]) rfl ?_
  refine j_aload_n C dL_borrows_5 rfl ?_
  refine j_iload_n C dL_borrows_6 rfl ?_
  refine j_iload_n C dL_borrows_7 rfl ?_
  refine j_callSH C (x_ifb h hp hq) dL_borrows_8 gL_borrows_L_ifBorrowed rfl ks_L_ifBorrowed rfl rfl (Nat.le_of_ble_eq_true rfl) ⟨by decide, by decide⟩ ⟨Nat.zero_le _, Nat.zero_le _⟩ (k_I ?_)
  refine j_istore C dL_borrows_11 (by decide) ?_
  refine j_lv (lv2 := [(0, _), (1, _), (2, _), (3, _), (5, _)]) rfl ?_
  refine j_aload_n C dL_borrows_13 rfl ?_
  refine j_iload_n C dL_borrows_14 rfl ?_
  refine j_iconst C dL_borrows_15 (v := nI 2) (by decide) ?_
  refine j_callSH C (x_len h hp) dL_borrows_16 gL_borrows_L_painterOf rfl ks_L_painterOf rfl rfl (Nat.le_of_ble_eq_true rfl) ⟨by decide, by decide⟩ ⟨Nat.zero_le _, Nat.zero_le _⟩ (k_I ?_)
  refine j_istore C dL_borrows_19 (by decide) ?_
  refine j_lv (lv2 := [(0, _), (1, _), (2, _), (3, _), (5, _), (6, _)]) rfl ?_
  refine j_aload_n C dL_borrows_21 rfl ?_
  refine j_iload_n C dL_borrows_22 rfl ?_
  refine j_iload_n C dL_borrows_23 rfl ?_
  refine j_callSH C (x_bor h hL hp hq) dL_borrows_24 gL_borrows_L_borrow rfl ks_L_borrow rfl rfl (Nat.le_of_ble_eq_true rfl) ⟨by decide, by decide⟩ ⟨Nat.zero_le _, Nat.zero_le _⟩ (k_IQ fun M1 h1 => ?_)
  refine j_iload C dL_borrows_27 rfl ?_
  refine j_icmp_ne C dL_borrows_29 (tgt := 66) (by decide) (fun q9 => (q9 (rfl)).elim) (fun _ => ?_)
  refine j_aload_n C dL_borrows_32 rfl ?_
  refine j_iload_n C dL_borrows_33 rfl ?_
  refine j_iconst C dL_borrows_34 (v := nI 3) (by decide) ?_
  refine j_callSH C (x_prs h1 hp) dL_borrows_35 gL_borrows_L_painterOf rfl ks_L_painterOf rfl rfl (Nat.le_of_ble_eq_true rfl) ⟨by decide, by decide⟩ ⟨Nat.zero_le _, Nat.zero_le _⟩ (k_I ?_)
  refine j_top C (nI (prW σ p (q + 1))) (congrArg nI (pr_borrow hp hq)) ?_
  refine j_iload C dL_borrows_38 rfl ?_
  refine j_icmp_ne C dL_borrows_40 (tgt := 66) (by decide) (fun q9 => (q9 (rfl)).elim) (fun _ => ?_)
  refine j_aload_n C dL_borrows_43 rfl ?_
  refine j_iload_n C dL_borrows_44 rfl ?_
  refine j_iconst C dL_borrows_45 (v := nI 2) (by decide) ?_
  refine j_callSH C (x_len h1 hp) dL_borrows_46 gL_borrows_L_painterOf rfl ks_L_painterOf rfl rfl (Nat.le_of_ble_eq_true rfl) ⟨by decide, by decide⟩ ⟨Nat.zero_le _, Nat.zero_le _⟩ (k_I ?_)
  refine j_top C (oI (brw p q)) (congrArg oI upS_eq) ?_
  refine j_cutI 59 (oI (brw p q)) ?_ (fun K59 => ?_)
  · refine j_icmp_ne C dL_borrows_59 (tgt := 66) (by decide) (fun q9 => (q9 (rfl)).elim) (fun _ => ?_)
    refine j_iconst C dL_borrows_62 (v := nI 1) (by decide) ?_
    refine j_goto C dL_borrows_63 (tgt := 67) (by decide) ?_
    refine j_istore C dL_borrows_67 (by decide) ?_
    refine j_lv (lv2 := [(0, _), (1, _), (2, _), (3, _), (5, _), (6, _), (7, _)]) rfl ?_
    refine j_iload C dL_borrows_69 rfl ?_
    refine j_if_eqN C dL_borrows_71 (tgt := 94) (by decide) (by omega) (fun cq71 => absurd cq71 (by decide)) (fun cq71 => ?_)
    refine j_aload_n C dL_borrows_74 rfl ?_
    refine j_callSH C (x_und h1) dL_borrows_75 gL_borrows_L_undo rfl ks_L_undo rfl rfl (Nat.le_of_ble_eq_true rfl) ⟨by decide, by decide⟩ ⟨Nat.zero_le _, Nat.zero_le _⟩ (k_IQ fun M2 h2 => ?_)
    refine j_if_ltN C dL_borrows_78 (tgt := 94) (by decide) (by omega) (fun cq78 => absurd cq78 (by omega)) (fun cq78 => ?_)
    refine j_aload_n C dL_borrows_81 rfl ?_
    refine j_callS C (cl_print h2) dL_borrows_82 gL_borrows_L_print rfl ks_L_print rfl rfl (Nat.le_of_ble_eq_true rfl) ⟨by decide, by decide⟩ ⟨Nat.zero_le _, Nat.zero_le _⟩ (k_L ?_)
    refine j_lload_n C dL_borrows_85 rfl ?_
    refine j_lcmp C dL_borrows_86 ?_
    refine j_top C (nI 0) (lg_self _) ?_
    refine j_if_neN C dL_borrows_87 (tgt := 94) (by decide) (by omega) (fun cq87 => absurd cq87 (by decide)) (fun cq87 => ?_)
    refine j_iconst C dL_borrows_90 (v := nI 1) (by decide) ?_
    refine j_goto C dL_borrows_91 (tgt := 95) (by decide) ?_
    refine j_top C (bI true) rfl ?_
    exact j_zreturn C hret dL_borrows_95 ⟨rfl, h2⟩
  · refine j_iload_n C dL_borrows_49 rfl ?_
    refine j_iload_n C dL_borrows_50 rfl ?_
    refine j_icmp_neN C dL_borrows_51 (tgt := 58) (by decide) (by omega) (by omega) (fun cq51 => ?_) (fun cq51 => ?_)
    · refine j_iload_n C dL_borrows_58 rfl ?_
      refine j_top C (oI (brw p q)) (by unfold brw; rw [if_neg cq51]; rfl) ?_
      exact K59
    · refine j_iconst C dL_borrows_54 (v := -1) (by decide) ?_
      refine j_goto C dL_borrows_55 (tgt := 59) (by decide) ?_
      refine j_top C (oI (brw p q)) (by unfold brw; rw [if_pos cq51]; rfl) ?_
      exact K59

set_option maxHeartbeats 4000000 in
set_option maxRecDepth 100000 in
theorem cl_labels {l : Launch} {G : GG} {M : MM} {σ : Sg} {n : Nat} {L : List Sg} (h : Xs M σ n L) (hL : L.length ≤ 5) {p : Nat} (hp : p < 4) : Ct l G yL_labels wsL_labels 14 ([.ref (G.2.2 72), .int (nI p)] : List Value) M (fun v9 M9 => v9 = some (.int (bI true)) ∧ Xs M9 σ (svN n - 1) L) := by
  have hW := h.wf
  obtain ⟨hs1, hs2, -⟩ := svN_s h.n6
  obtain ⟨cp, hcp⟩ := Chi.ex (ap_self σ p) (fun _ => true)
  have hap : ap (lbS σ p 8) p = ap σ p := by
    funext i j
    exact lbS_ap (Nat.le_refl 8) hp
  have hcp2 : Chi (ap (lbS σ p 8) p) (fun _ => true) cp := by rw [hap]; exact hcp
  have hpr : pr (lbS σ p 8) p = cntN 64 (fun m => decide (m / 8 < m % 8) && ap σ p (m / 8) (m % 8)) := by
    show cntN 64 (fun m => decide (m / 8 < m % 8) && ap (lbS σ p 8) p (m / 8) (m % 8)) = _
    rw [hap]
  have hfew := lb_few hp hcp
  have hcp8 := hcp.le8 (ap_self σ p)
  have hcp0 := chi_pos hcp
  have hp8 : popc (lmask (lbS σ p 8)) ≤ 8 := cntN_le _ 8
  have hone := chi_one (ap_self σ p) (ap_sym σ p) hcp
  have hed := chi_edges (ap_sym σ p) (ap_self σ p) hcp
  rw [← hpr] at hone hed
  have hmul : (cp - 1) * cp ≤ 8 * 8 := Nat.mul_le_mul (by omega) hcp8
  have hprl := pr_le (lbS σ p 8) p
  refine Ct.of (cc := cL_labels) (maxL := 11) (ret := (some .boolean)) (lv := [(0, .ref (G.2.2 72)), (1, .int (nI p))]) (by decide) rfl rfl (Nat.le_of_ble_eq_true rfl) ?_
  intro pg ev sg mm bl mt cd AZ C hret
  refine j_aload_n C dL_labels_0 rfl ?_
  refine j_callS C (cl_print h) dL_labels_1 gL_labels_L_print rfl ks_L_print rfl rfl (Nat.le_of_ble_eq_true rfl) ⟨by decide, by decide⟩ ⟨Nat.zero_le _, Nat.zero_le _⟩ (k_L ?_)
  refine j_lstore_n C dL_labels_4 (by decide) ?_
  refine j_lv (lv2 := [(0, _), (1, _), (2, _)]) rfl ?_
  refine j_aload_n C dL_labels_5 rfl ?_
  refine j_iload_n C dL_labels_6 rfl ?_
  refine j_iconst C dL_labels_7 (v := nI 0) (by decide) ?_
  refine j_callSH C (x_fw0 h hcp hp) dL_labels_8 gL_labels_L_fewest rfl ks_L_fewest rfl rfl (Nat.le_of_ble_eq_true rfl) ⟨by decide, by decide⟩ ⟨Nat.zero_le _, Nat.zero_le _⟩ (k_IQ fun M1 h1 => ?_)
  refine j_istore C dL_labels_11 (by decide) ?_
  refine j_lv (lv2 := [(0, _), (1, _), (2, _), (4, _)]) rfl ?_
  refine j_aload_n C dL_labels_13 rfl ?_
  refine j_iload_n C dL_labels_14 rfl ?_
  refine j_callSH C (x_lba h1 hL hp) dL_labels_15 gL_labels_L_labelAll rfl ks_L_labelAll rfl rfl (Nat.le_of_ble_eq_true rfl) ⟨by decide, by decide⟩ ⟨Nat.zero_le _, Nat.zero_le _⟩ (k_IQ fun M2 h2 => ?_)
  refine j_istore C dL_labels_18 (by decide) ?_
  refine j_lv (lv2 := [(0, _), (1, _), (2, _), (4, _), (5, _)]) rfl ?_
  refine j_iload C dL_labels_20 rfl ?_
  refine j_aload_n C dL_labels_22 rfl ?_
  refine j_iload_n C dL_labels_23 rfl ?_
  refine j_iconst C dL_labels_24 (v := nI 1) (by decide) ?_
  refine j_callSH C (x_fw1 h2 hcp2 hp) dL_labels_25 gL_labels_L_fewest rfl ks_L_fewest rfl rfl (Nat.le_of_ble_eq_true rfl) ⟨by decide, by decide⟩ ⟨Nat.zero_le _, Nat.zero_le _⟩ (k_IQ fun M3 h3 => ?_)
  refine j_icmp_ne C dL_labels_28 (tgt := 140) (by decide) (fun q9 => (q9 (rfl)).elim) (fun _ => ?_)
  refine j_iload C dL_labels_31 rfl ?_
  refine j_iload C dL_labels_33 rfl ?_
  refine j_icmp_ltN C dL_labels_35 (tgt := 140) (by decide) (by omega) (by omega) (fun cq35 => absurd cq35 (by omega)) (fun cq35 => ?_)
  refine j_iload C dL_labels_38 rfl ?_
  refine j_aload_n C dL_labels_40 rfl ?_
  refine j_iconst C dL_labels_41 (v := nI 1) (by decide) ?_
  refine j_callSH C (x_ct1 h3) dL_labels_42 gL_labels_L_count rfl ks_L_count rfl rfl (Nat.le_of_ble_eq_true rfl) ⟨by decide, by decide⟩ ⟨Nat.zero_le _, Nat.zero_le _⟩ (k_I ?_)
  refine j_icmp_ne C dL_labels_45 (tgt := 140) (by decide) (fun q9 => (q9 (rfl)).elim) (fun _ => ?_)
  refine j_aload_n C dL_labels_48 rfl ?_
  refine j_iconst C dL_labels_49 (v := nI 0) (by decide) ?_
  refine j_callSH C (x_ct0 h3) dL_labels_50 gL_labels_L_count rfl ks_L_count rfl rfl (Nat.le_of_ble_eq_true rfl) ⟨by decide, by decide⟩ ⟨Nat.zero_le _, Nat.zero_le _⟩ (k_I ?_)
  refine j_top C (nI 8) (congrArg nI lb_labd) ?_
  refine j_bipush C dL_labels_53 (v := nI 8) (by decide) ?_
  refine j_icmp_ne C dL_labels_55 (tgt := 140) (by decide) (fun q9 => (q9 (rfl)).elim) (fun _ => ?_)
  refine j_aload_n C dL_labels_58 rfl ?_
  refine j_iload_n C dL_labels_59 rfl ?_
  refine j_iconst C dL_labels_60 (v := nI 5) (by decide) ?_
  refine j_callSH C (x_rgt h3 hp) dL_labels_61 gL_labels_L_painterOf rfl ks_L_painterOf rfl rfl (Nat.le_of_ble_eq_true rfl) ⟨by decide, by decide⟩ ⟨Nat.zero_le _, Nat.zero_le _⟩ (k_I ?_)
  refine j_top C (nI 1) (by rw [lb_wrg hp]; rfl) ?_
  refine j_iconst C dL_labels_64 (v := nI 1) (by decide) ?_
  refine j_icmp_ne C dL_labels_65 (tgt := 140) (by decide) (fun q9 => (q9 (rfl)).elim) (fun _ => ?_)
  refine j_aload_n C dL_labels_68 rfl ?_
  refine j_iconst C dL_labels_69 (v := nI 0) (by decide) ?_
  refine j_iconst C dL_labels_70 (v := nI 3) (by decide) ?_
  refine j_callSH C (x_lab h3 (by decide)) dL_labels_71 gL_labels_L_potOf rfl ks_L_potOf rfl rfl (Nat.le_of_ble_eq_true rfl) ⟨by decide, by decide⟩ ⟨Nat.zero_le _, Nat.zero_le _⟩ (k_I ?_)
  refine j_top C (nI 0) (by rw [lb_0]; rfl) ?_
  refine j_if_neN C dL_labels_74 (tgt := 140) (by decide) (by omega) (fun cq74 => absurd cq74 (by decide)) (fun cq74 => ?_)
  refine j_cut 88 (decide (cp = 1)) ?_ (fun K88 => ?_)
  · refine j_cut 102 (decide (pr (lbS σ p 8) p = 0)) ?_ (fun K102 => ?_)
    · refine j_icmp_ne C dL_labels_102 (tgt := 140) (by decide) (fun q9 => (q9 (congrArg bI (decide_eq_decide.mpr hone))).elim) (fun _ => ?_)
      refine j_iload C dL_labels_105 rfl ?_
      refine j_iconst C dL_labels_107 (v := nI 1) (by decide) ?_
      refine j_icmp_ltN C dL_labels_108 (tgt := 140) (by decide) (by omega) (by omega) (fun cq108 => absurd cq108 (by omega)) (fun cq108 => ?_)
      refine j_iload C dL_labels_111 rfl ?_
      refine j_bipush C dL_labels_113 (v := nI 8) (by decide) ?_
      refine j_icmp_gtN C dL_labels_115 (tgt := 140) (by decide) (by omega) (by omega) (fun cq115 => absurd cq115 (by omega)) (fun cq115 => ?_)
      refine j_iload C dL_labels_118 rfl ?_
      refine j_iconst C dL_labels_120 (v := nI 1) (by decide) ?_
      refine j_isubN C dL_labels_121 (by omega) ?_
      refine j_iload C dL_labels_122 rfl ?_
      refine j_imulN C dL_labels_124 ?_
      refine j_iconst C dL_labels_125 (v := nI 2) (by decide) ?_
      refine j_idivN C dL_labels_126 (by omega) (by decide) (by decide) ?_
      refine j_aload_n C dL_labels_127 rfl ?_
      refine j_iload_n C dL_labels_128 rfl ?_
      refine j_iconst C dL_labels_129 (v := nI 3) (by decide) ?_
      refine j_callSH C (x_prs h3 hp) dL_labels_130 gL_labels_L_painterOf rfl ks_L_painterOf rfl rfl (Nat.le_of_ble_eq_true rfl) ⟨by decide, by decide⟩ ⟨Nat.zero_le _, Nat.zero_le _⟩ (k_I ?_)
      refine j_icmp_gtN C dL_labels_133 (tgt := 140) (by decide) (by omega) (by omega) (fun cq133 => absurd cq133 (by omega)) (fun cq133 => ?_)
      refine j_iconst C dL_labels_136 (v := nI 1) (by decide) ?_
      refine j_goto C dL_labels_137 (tgt := 141) (by decide) ?_
      refine j_istore C dL_labels_141 (by decide) ?_
      refine j_lv (lv2 := [(0, _), (1, _), (2, _), (4, _), (5, _), (6, _)]) rfl ?_
      refine j_iconst C dL_labels_143 (v := nI 0) (by decide) ?_
      refine j_istore C dL_labels_144 (by decide) ?_
      refine j_lv (lv2 := [(0, _), (1, _), (2, _), (4, _), (5, _), (6, _), (7, _)]) rfl ?_
      have L146 : ∀ i, i ≤ 8 → J G pg l ev (rmD 14) sg mm ([.ref (G.2.2 72), .int (nI p)] : List Value).toArray bl mt cd AZ 11 (MQ bl (QQ G (fun v9 M9 => v9 = some (.int (bI true)) ∧ Xs M9 σ (svN n - 1) L) AZ) ([.ref (G.2.2 72), .int (nI p)] : List Value).toArray sg 0 0 AZ) 0 0 146 [(0, .ref (G.2.2 72)), (1, .int (nI p)), (2, .long (prS σ)), (4, .int (nI cp)), (5, .int (nI (popc (lmask (lbS σ p 8))))), (6, .int (nI 1)), (7, .int (nI i))] [] (M3) := by
        refine dnto ?_
        intro i hi146 ih146
        refine j_iload C dL_labels_146 rfl ?_
        refine j_bipush C dL_labels_148 (v := nI 8) (by decide) ?_
        refine j_icmp_geN C dL_labels_150 (tgt := 258) (by decide) (by omega) (by omega) (fun cq150 => ?_) (fun cq150 => ?_)
        · refine j_iload C dL_labels_258 rfl ?_
          refine j_if_eqN C dL_labels_260 (tgt := 283) (by decide) (by omega) (fun cq260 => absurd cq260 (by decide)) (fun cq260 => ?_)
          refine j_aload_n C dL_labels_263 rfl ?_
          refine j_callSH C (x_und h3) dL_labels_264 gL_labels_L_undo rfl ks_L_undo rfl rfl (Nat.le_of_ble_eq_true rfl) ⟨by decide, by decide⟩ ⟨Nat.zero_le _, Nat.zero_le _⟩ (k_IQ fun M4 h4 => ?_)
          refine j_if_ltN C dL_labels_267 (tgt := 283) (by decide) (by omega) (fun cq267 => absurd cq267 (by omega)) (fun cq267 => ?_)
          refine j_aload_n C dL_labels_270 rfl ?_
          refine j_callS C (cl_print h4) dL_labels_271 gL_labels_L_print rfl ks_L_print rfl rfl (Nat.le_of_ble_eq_true rfl) ⟨by decide, by decide⟩ ⟨Nat.zero_le _, Nat.zero_le _⟩ (k_L ?_)
          refine j_lload_n C dL_labels_274 rfl ?_
          refine j_lcmp C dL_labels_275 ?_
          refine j_top C (nI 0) (lg_self _) ?_
          refine j_if_neN C dL_labels_276 (tgt := 283) (by decide) (by omega) (fun cq276 => absurd cq276 (by decide)) (fun cq276 => ?_)
          refine j_iconst C dL_labels_279 (v := nI 1) (by decide) ?_
          refine j_goto C dL_labels_280 (tgt := 284) (by decide) ?_
          refine j_top C (bI true) rfl ?_
          exact j_zreturn C hret dL_labels_284 ⟨rfl, h4⟩
        · refine j_iload C dL_labels_153 rfl ?_
          refine j_if_eqN C dL_labels_155 (tgt := 258) (by decide) (by omega) (fun cq155 => absurd cq155 (by decide)) (fun cq155 => ?_)
          have hle := lb_le (σ := σ) (p := p) cq150
          refine j_iconst C dL_labels_158 (v := nI 0) (by decide) ?_
          refine j_istore C dL_labels_159 (by decide) ?_
          refine j_lv (lv2 := [(0, _), (1, _), (2, _), (4, _), (5, _), (6, _), (7, _), (8, _)]) rfl ?_
          have L161 : ∀ lb, lb ≤ lbS σ p 8 (4 * i + 3) - 1 → J G pg l ev (rmD 14) sg mm ([.ref (G.2.2 72), .int (nI p)] : List Value).toArray bl mt cd AZ 11 (MQ bl (QQ G (fun v9 M9 => v9 = some (.int (bI true)) ∧ Xs M9 σ (svN n - 1) L) AZ) ([.ref (G.2.2 72), .int (nI p)] : List Value).toArray sg 0 0 AZ) 0 0 161 [(0, .ref (G.2.2 72)), (1, .int (nI p)), (2, .long (prS σ)), (4, .int (nI cp)), (5, .int (nI (popc (lmask (lbS σ p 8))))), (6, .int (nI 1)), (7, .int (nI i)), (8, .int (nI lb))] [] (M3) := by
            refine dnto ?_
            intro lb hl161 ih161
            refine j_iload C dL_labels_161 rfl ?_
            refine j_aload_n C dL_labels_163 rfl ?_
            refine j_iload C dL_labels_164 rfl ?_
            refine j_iconst C dL_labels_166 (v := nI 3) (by decide) ?_
            refine j_callSH C (x_lab h3 cq150) dL_labels_167 gL_labels_L_potOf rfl ks_L_potOf rfl rfl (Nat.le_of_ble_eq_true rfl) ⟨by decide, by decide⟩ ⟨Nat.zero_le _, Nat.zero_le _⟩ (k_I ?_)
            refine j_top C (nI (lbS σ p 8 (4 * i + 3) - 1)) (oI_pos (by omega)) ?_
            refine j_icmp_geN C dL_labels_170 (tgt := 252) (by decide) (by omega) (by omega) (fun cq170 => ?_) (fun cq170 => ?_)
            · refine j_iincN C dL_labels_252 rfl (by decide) ?_
              refine j_goto C dL_labels_255 (tgt := 146) (by decide) ?_
              exact j_pick [0, 1, 2, 3, 4, 5, 6] (ih146 (by omega))
            · refine j_iconst C dL_labels_173 (v := nI 0) (by decide) ?_
              refine j_top C (bI (decide (0 < cntN 0 (fun k => decide (lbS σ p 8 (4 * k + 3) = lb + 1) && ap (lbS σ p 8) p k i)))) th_0 ?_
              refine j_istore C dL_labels_174 (by decide) ?_
              refine j_lv (lv2 := [(0, _), (1, _), (2, _), (4, _), (5, _), (6, _), (7, _), (8, _), (9, _)]) rfl ?_
              refine j_iconst C dL_labels_176 (v := nI 0) (by decide) ?_
              refine j_istore C dL_labels_177 (by decide) ?_
              refine j_lv (lv2 := [(0, _), (1, _), (2, _), (4, _), (5, _), (6, _), (7, _), (8, _), (9, _), (10, _)]) rfl ?_
              have L179 : ∀ a, a ≤ i → J G pg l ev (rmD 14) sg mm ([.ref (G.2.2 72), .int (nI p)] : List Value).toArray bl mt cd AZ 11 (MQ bl (QQ G (fun v9 M9 => v9 = some (.int (bI true)) ∧ Xs M9 σ (svN n - 1) L) AZ) ([.ref (G.2.2 72), .int (nI p)] : List Value).toArray sg 0 0 AZ) 0 0 179 [(0, .ref (G.2.2 72)), (1, .int (nI p)), (2, .long (prS σ)), (4, .int (nI cp)), (5, .int (nI (popc (lmask (lbS σ p 8))))), (6, .int (nI 1)), (7, .int (nI i)), (8, .int (nI lb)), (9, .int (bI (decide (0 < cntN a (fun k => decide (lbS σ p 8 (4 * k + 3) = lb + 1) && ap (lbS σ p 8) p k i))))), (10, .int (nI a))] [] (M3) := by
                refine dnto ?_
                intro a ha179 ih179
                refine j_iload C dL_labels_179 rfl ?_
                refine j_iload C dL_labels_181 rfl ?_
                refine j_icmp_geN C dL_labels_183 (tgt := 229) (by decide) (by omega) (by omega) (fun cq183 => ?_) (fun cq183 => ?_)
                · have ea : a = i := by omega
                  subst ea
                  have hth : decide (0 < cntN a (fun k => decide (lbS σ p 8 (4 * k + 3) = lb + 1) && ap (lbS σ p 8) p k a)) = true := by
                    obtain ⟨b, b1, b2, b3⟩ := lb_low (σ := σ) (l := lb) hp cq150 (by omega)
                    refine decide_eq_true (Nat.lt_of_le_of_lt (Nat.zero_le _) (cntN_lt (l := b) b1 ?_))
                    show (decide (lbS σ p 8 (4 * b + 3) = lb + 1) && ap (lbS σ p 8) p b a) = true
                    rw [hap, b2, decide_eq_true b3]; rfl
                  refine j_iload C dL_labels_229 rfl ?_
                  refine j_if_eqN C dL_labels_231 (tgt := 243) (by decide) (by omega) (fun cq231 => absurd cq231 (by decide)) (fun cq231 => ?_)
                  refine j_iload C dL_labels_234 rfl ?_
                  refine j_if_eqB C dL_labels_236 (tgt := 243) (by decide) (fun cq236 => absurd cq236 (by rw [hth]; decide)) (fun cq236 => ?_)
                  refine j_iconst C dL_labels_239 (v := nI 1) (by decide) ?_
                  refine j_goto C dL_labels_240 (tgt := 244) (by decide) ?_
                  refine j_istore C dL_labels_244 (by decide) ?_
                  refine j_lv (lv2 := [(0, _), (1, _), (2, _), (4, _), (5, _), (6, _), (7, _), (8, _), (9, _), (10, _)]) rfl ?_
                  refine j_iincN C dL_labels_246 rfl (by decide) ?_
                  refine j_goto C dL_labels_249 (tgt := 161) (by decide) ?_
                  exact j_pick [0, 1, 2, 3, 4, 5, 6, 7] (ih161 (by omega))
                · have hla := lb_le (σ := σ) (p := p) (i := a) (by omega)
                  refine j_cut 221 (decide (0 < cntN (a + 1) (fun k => decide (lbS σ p 8 (4 * k + 3) = lb + 1) && ap (lbS σ p 8) p k i))) ?_ (fun K221 => ?_)
                  · refine j_istore C dL_labels_221 (by decide) ?_
                    refine j_lv (lv2 := [(0, _), (1, _), (2, _), (4, _), (5, _), (6, _), (7, _), (8, _), (9, _), (10, _)]) rfl ?_
                    refine j_iincN C dL_labels_223 rfl (by decide) ?_
                    refine j_goto C dL_labels_226 (tgt := 179) (by decide) ?_
                    exact ih179 (by omega)
                  · refine j_iload C dL_labels_186 rfl ?_
                    refine j_if_neB C dL_labels_188 (tgt := 216) (by decide) (fun cq188 => ?_) (fun cq188 => ?_)
                    · refine j_iconst C dL_labels_216 (v := nI 1) (by decide) ?_
                      refine j_goto C dL_labels_217 (tgt := 221) (by decide) ?_
                      exact j_join (decide (0 < cntN (a + 1) (fun k => decide (lbS σ p 8 (4 * k + 3) = lb + 1) && ap (lbS σ p 8) p k i))) K221 (th_t (Or.inl cq188))
                    · refine j_aload_n C dL_labels_191 rfl ?_
                      refine j_iload C dL_labels_192 rfl ?_
                      refine j_iconst C dL_labels_194 (v := nI 3) (by decide) ?_
                      refine j_callSH C (x_lab h3 (by omega)) dL_labels_195 gL_labels_L_potOf rfl ks_L_potOf rfl rfl (Nat.le_of_ble_eq_true rfl) ⟨by decide, by decide⟩ ⟨Nat.zero_le _, Nat.zero_le _⟩ (k_I ?_)
                      refine j_top C (nI (lbS σ p 8 (4 * a + 3) - 1)) (oI_pos (by omega)) ?_
                      refine j_iload C dL_labels_198 rfl ?_
                      refine j_icmp_neN C dL_labels_200 (tgt := 220) (by decide) (by omega) (by omega) (fun cq200 => ?_) (fun cq200 => ?_)
                      · refine j_iconst C dL_labels_220 (v := nI 0) (by decide) ?_
                        exact j_join (decide (0 < cntN (a + 1) (fun k => decide (lbS σ p 8 (4 * k + 3) = lb + 1) && ap (lbS σ p 8) p k i))) K221 (th_f cq188 (by show (decide (lbS σ p 8 (4 * a + 3) = lb + 1) && ap (lbS σ p 8) p a i) = false; rw [decide_eq_false (by omega)]; rfl))
                      · refine j_aload_n C dL_labels_203 rfl ?_
                        refine j_iload_n C dL_labels_204 rfl ?_
                        refine j_iload C dL_labels_205 rfl ?_
                        refine j_iload C dL_labels_207 rfl ?_
                        refine j_callSH C (x_ap h3 hp (by omega) (by omega)) dL_labels_209 gL_labels_L_apart rfl ks_L_apart rfl rfl (Nat.le_of_ble_eq_true rfl) ⟨by decide, by decide⟩ ⟨Nat.zero_le _, Nat.zero_le _⟩ (k_I ?_)
                        refine j_iconst C dL_labels_212 (v := nI 1) (by decide) ?_
                        refine j_icmp_ne C dL_labels_213 (tgt := 220) (by decide) (fun cq213 => ?_) (fun cq213 => ?_)
                        · refine j_iconst C dL_labels_220 (v := nI 0) (by decide) ?_
                          exact j_join (decide (0 < cntN (a + 1) (fun k => decide (lbS σ p 8 (4 * k + 3) = lb + 1) && ap (lbS σ p 8) p k i))) K221 (th_f cq188 (by show (decide (lbS σ p 8 (4 * a + 3) = lb + 1) && ap (lbS σ p 8) p a i) = false; rw [bI_n1 cq213, Bool.and_false]))
                        · refine j_iconst C dL_labels_216 (v := nI 1) (by decide) ?_
                          refine j_goto C dL_labels_217 (tgt := 221) (by decide) ?_
                          exact j_join (decide (0 < cntN (a + 1) (fun k => decide (lbS σ p 8 (4 * k + 3) = lb + 1) && ap (lbS σ p 8) p k i))) K221 (th_t (Or.inr (by show (decide (lbS σ p 8 (4 * a + 3) = lb + 1) && ap (lbS σ p 8) p a i) = true; rw [decide_eq_true (by omega), bI_1.mp cq213]; rfl)))
              exact L179 0 (by omega)
          exact L161 0 (by omega)
      exact L146 0 (by omega)
    · refine j_aload_n C dL_labels_88 rfl ?_
      refine j_iload_n C dL_labels_89 rfl ?_
      refine j_iconst C dL_labels_90 (v := nI 3) (by decide) ?_
      refine j_callSH C (x_prs h3 hp) dL_labels_91 gL_labels_L_painterOf rfl ks_L_painterOf rfl rfl (Nat.le_of_ble_eq_true rfl) ⟨by decide, by decide⟩ ⟨Nat.zero_le _, Nat.zero_le _⟩ (k_I ?_)
      refine j_if_neN C dL_labels_94 (tgt := 101) (by decide) (by omega) (fun cq94 => ?_) (fun cq94 => ?_)
      · refine j_iconst C dL_labels_101 (v := nI 0) (by decide) ?_
        exact j_join (decide (pr (lbS σ p 8) p = 0)) K102 (by simp [bI, cq94])
      · refine j_iconst C dL_labels_97 (v := nI 1) (by decide) ?_
        refine j_goto C dL_labels_98 (tgt := 102) (by decide) ?_
        exact j_join (decide (pr (lbS σ p 8) p = 0)) K102 (by simp [bI, cq94])
  · refine j_iload C dL_labels_77 rfl ?_
    refine j_iconst C dL_labels_79 (v := nI 1) (by decide) ?_
    refine j_icmp_neN C dL_labels_80 (tgt := 87) (by decide) (by omega) (by omega) (fun cq80 => ?_) (fun cq80 => ?_)
    · refine j_iconst C dL_labels_87 (v := nI 0) (by decide) ?_
      exact j_join (decide (cp = 1)) K88 (by simp [bI, cq80])
    · refine j_iconst C dL_labels_83 (v := nI 1) (by decide) ?_
      refine j_goto C dL_labels_84 (tgt := 88) (by decide) ?_
      exact j_join (decide (cp = 1)) K88 (by simp [bI, cq80])
