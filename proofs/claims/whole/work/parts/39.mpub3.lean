set_option maxRecDepth 20000 in
theorem in_X6_correct_X6 : ∀ w ∈ wsX60, w ∈ wsX6_correct := by decide +kernel
set_option maxRecDepth 20000 in
theorem fl_X6_correct_7 : Cond.fieldLink RX6 7 "PotLabelsModel" "s" "[I" ∈ wsX6_correct := by decide +kernel
set_option maxRecDepth 20000 in
theorem fl_X6_correct_71 : Cond.fieldLink RX6 71 "PotLabelsModel" "red" "I" ∈ wsX6_correct := by decide +kernel
set_option maxRecDepth 20000 in
theorem fl_X6_correct_74 : Cond.fieldLink RX6 74 "PotLabelsModel" "green" "I" ∈ wsX6_correct := by decide +kernel
set_option maxRecDepth 20000 in
theorem fl_X6_correct_77 : Cond.fieldLink RX6 77 "PotLabelsModel" "blue" "I" ∈ wsX6_correct := by decide +kernel
set_option maxRecDepth 20000 in
theorem in_X6_load_X6 : ∀ w ∈ wsX60, w ∈ wsX6_load := by decide +kernel
set_option maxRecDepth 20000 in
theorem fl_X6_load_127 : Cond.fieldLink RX6 127 "PotLabelsModel" "typed" "I" ∈ wsX6_load := by decide +kernel
set_option maxRecDepth 20000 in
theorem fl_X6_load_17 : Cond.fieldLink RX6 17 "PotLabelsModel" "buffer" "[C" ∈ wsX6_load := by decide +kernel
set_option maxRecDepth 20000 in
theorem fl_X6_load_7 : Cond.fieldLink RX6 7 "PotLabelsModel" "s" "[I" ∈ wsX6_load := by decide +kernel
theorem upc_id {σ : Sg} {i : Nat} : upc σ i (σ (4 * i)) (σ (4 * i + 1)) (σ (4 * i + 2)) = σ := by
  funext j; unfold upc upS
  by_cases e2 : j = 4 * i + 2
  · rw [if_pos e2, e2]
  · rw [if_neg e2]
    by_cases e1 : j = 4 * i + 1
    · rw [if_pos e1, e1]
    · rw [if_neg e1]
      by_cases e0 : j = 4 * i
      · rw [if_pos e0, e0]
      · rw [if_neg e0]
theorem ad_0 {a b : Nat} (h : ad a b = 0) : b = a := by unfold ad at h; omega
/-- the model gives the colour also where it is the same -/
theorem mm_G {az : Nat × Nat} {σ : Sg} {p ch k c : Nat} (hz : az = nst σ p (σ (45 + 2 * ch)) (σ (46 + 2 * ch)) 1000) (hk : az.1 = k + 1) (hc : (0 < az.2 ∧ c = 1) ∨ (az.2 = 0 ∧ c = 0)) : upS (upc σ (σ (45 + 2 * ch)) (k / 100) (k / 10 % 10) (k % 10)) 57 (σ 57 + c) = mrG az σ ch := by
  rcases hc with ⟨h, e⟩ | ⟨h, e⟩
  · subst e; rw [mrS_2 hk h]
  · subst e
    rw [mrS_1 hk h]
    have q : az.2 = chg σ (σ (45 + 2 * ch)) k := by
      rw [hz] at hk ⊢
      exact ((nst_in σ p (σ (45 + 2 * ch)) (σ (46 + 2 * ch)) 1000).2.2 k hk).1
    rw [h] at q
    have q2 := (chg_sum σ (σ (45 + 2 * ch)) k).trans q.symm
    rw [ad_0 (a := σ (4 * σ (45 + 2 * ch))) (b := k / 100) (by omega), ad_0 (a := σ (4 * σ (45 + 2 * ch) + 1)) (b := k / 10 % 10) (by omega), ad_0 (a := σ (4 * σ (45 + 2 * ch) + 2)) (b := k % 10) (by omega), upc_id]
    funext j
    by_cases e : j = 57
    · subst e; rw [upS_eq]; rfl
    · rw [upS_ne e]
def k8 : Nat → Prop := fun k => k = 8 ∨ k = 9 ∨ k = 10
/-- the numbers of a text are given one after another -/
def gvP (σ : Sg) (f : Nat → Nat) (k : Nat) : Nat → Sg
  | 0 => σ
  | m + 1 => upS (gvP σ f k m) (4 * (f (6 * k) - 48) + m) (f (6 * k + 2 + m) - 48)
theorem gvP_3 {σ : Sg} {f : Nat → Nat} {k : Nat} : gvP (gvS σ f k) f k 3 = gvS σ f (k + 1) := by
  show upS (upS (upS (gvS σ f k) (4 * (f (6 * k) - 48) + 0) (f (6 * k + 2 + 0) - 48)) (4 * (f (6 * k) - 48) + 1) (f (6 * k + 2 + 1) - 48)) (4 * (f (6 * k) - 48) + 2) (f (6 * k + 2 + 2) - 48) = upS (upS (upS (gvS σ f k) (4 * (f (6 * k) - 48)) (f (6 * k + 2) - 48)) (4 * (f (6 * k) - 48) + 1) (f (6 * k + 3) - 48)) (4 * (f (6 * k) - 48) + 2) (f (6 * k + 4) - 48)
  rw [Nat.add_zero, Nat.add_zero, show 6 * k + 2 + 1 = 6 * k + 3 by omega, show 6 * k + 2 + 2 = 6 * k + 4 by omega]
theorem tpT_er {n : Nat} {f : Nat → Nat} (h : tpT n f = true) : erT n f = n := by
  unfold tpT at h; rw [Bool.and_eq_true] at h; exact of_decide_eq_true h.2
theorem tpT_dg {n : Nat} {f : Nat → Nat} (h : tpT n f = true) {k m : Nat} (hk : 6 * k < n) (hm : m < 3) : 48 ≤ f (6 * k + 2 + m) ∧ f (6 * k + 2 + m) ≤ 57 := by
  obtain ⟨-, a2, a3, a4⟩ := (tpT_ok h).2 k hk
  rcases (show m = 0 ∨ m = 1 ∨ m = 2 by omega) with rfl | rfl | rfl
  · exact a2
  · exact a3
  · exact a4

set_option maxHeartbeats 4000000 in
set_option maxRecDepth 100000 in
theorem cn_correct {l : Launch} {G : GG} {M : MM} {S : SS} (hX : Xm M S) (hO : OkS S) {ch p : Nat} {az : Nat × Nat} (hz : az = nst S.1 p (S.1 (45 + 2 * ch)) (S.1 (46 + 2 * ch)) 1000) (hc : ch < S.1 44) (hp : p < 4) : Ct l G yX6_correct wsX6_correct 5 ([.ref (G.2.2 84), .int (nI ch), .int (nI p)] : List Value) M (fun v9 M9 => v9 = some (.int (lsR az)) ∧ Xm M9 (svW S (mrG az S.1 ch)) ∧ Off M M9 inM ∧ M9.2.1 84 5 = nI 0) := by
  have hS := hX.1
  have hW := hO.1
  have h44 := hW.2.2.1
  have h28 : az.2 ≤ 28 := by rw [hz]; exact (nst_in S.1 p _ _ 1000).1.2
  obtain ⟨hf7, hg7⟩ := hW.2.2.2 ch (by omega)
  refine Ct.of (cc := cX6_correct) (maxL := 5) (ret := (some .int)) (lv := [(0, .ref (G.2.2 84)), (1, .int (nI ch)), (2, .int (nI p))]) (by decide) rfl rfl (Nat.le_of_ble_eq_true rfl) ?_
  intro pg ev sg mm bl mt cd AZ C hret
  refine j_aload_n C dX6_correct_0 rfl ?_
  refine j_aload_n C dX6_correct_1 rfl ?_
  refine j_iload_n C dX6_correct_2 rfl ?_
  refine j_callV C (cm_isChart hS hW) dX6_correct_3 rfl (by decide) (T := TX6) rfl gX6_correct_X6_isChart rfl kd_X6_isChart rfl rfl (Nat.le_of_ble_eq_true rfl) ⟨by decide, by decide⟩ ⟨Nat.zero_le _, Nat.zero_le _⟩ (k_I ?_)
  refine j_top C (bI true) (congrArg bI (isC_t hc h44)) ?_
  refine j_if_eqB C dX6_correct_6 (tgt := 20) (by decide) (fun cq6 => absurd cq6 (by decide)) (fun cq6 => ?_)
  refine j_iload_n C dX6_correct_9 rfl ?_
  refine j_callS C cm_isPainter dX6_correct_10 gX6_correct_X6_isPainter rfl ks_X6_isPainter rfl rfl (Nat.le_of_ble_eq_true rfl) ⟨by decide, by decide⟩ ⟨Nat.zero_le _, Nat.zero_le _⟩ (k_I ?_)
  refine j_top C (bI true) (congrArg bI (inI_N (by omega) (by omega) (by decide))) ?_
  refine j_if_eqB C dX6_correct_13 (tgt := 20) (by decide) (fun cq13 => absurd cq13 (by decide)) (fun cq13 => ?_)
  refine j_iconst C dX6_correct_16 (v := nI 1) (by decide) ?_
  refine j_top C (bI true) rfl ?_
  refine j_goto C dX6_correct_17 (tgt := 21) (by decide) ?_
  refine j_iconst C dX6_correct_21 (v := nI 1) (by decide) ?_
  refine j_top C (bI true) rfl ?_
  refine j_callV C cm_goes dX6_correct_22 rfl (by decide) (T := TX6) rfl gX6_correct_X6_goes rfl kd_X6_goes rfl rfl (Nat.le_of_ble_eq_true rfl) ⟨by decide, by decide⟩ ⟨Nat.zero_le _, Nat.zero_le _⟩ (k_I ?_)
  refine j_top C (bI true) rfl ?_
  have hX1 : Xm (setV M 84 5 (nI (thr true true))) S := hX.thr
  have hS1 := hX1.1
  refine j_if_neB C dX6_correct_25 (tgt := 30) (by decide) (fun cq25 => ?_) (fun cq25 => absurd cq25 (by decide))
  refine j_aload_n C dX6_correct_30 rfl ?_
  refine j_callV C (cm_saves hX1.2.1 hX1.1) dX6_correct_31 rfl (by decide) (T := TX6) rfl gX6_correct_X6_saves rfl kd_X6_saves rfl rfl (Nat.le_of_ble_eq_true rfl) ⟨by decide, by decide⟩ ⟨Nat.zero_le _, Nat.zero_le _⟩ (k_VQ fun M3 hq => ?_)
  obtain ⟨hm, ho⟩ := hq
  have hX3 := hX1.save hm ho
  have hS3 : Sm M3 0 S.1 := hX3.1
  refine j_aload_n C dX6_correct_34 rfl ?_
  refine j_iload_n C dX6_correct_35 rfl ?_
  refine j_aload_n C dX6_correct_36 rfl ?_
  refine j_iload_n C dX6_correct_37 rfl ?_
  refine j_callV C (cm_figure hS3 hW (by omega)) dX6_correct_38 rfl (by decide) (T := TX6) rfl gX6_correct_X6_figure rfl kd_X6_figure rfl rfl (Nat.le_of_ble_eq_true rfl) ⟨by decide, by decide⟩ ⟨Nat.zero_le _, Nat.zero_le _⟩ (k_I ?_)
  refine j_aload_n C dX6_correct_41 rfl ?_
  refine j_iload_n C dX6_correct_42 rfl ?_
  refine j_callV C (cm_ground hS3 hW (by omega)) dX6_correct_43 rfl (by decide) (T := TX6) rfl gX6_correct_X6_ground rfl kd_X6_ground rfl rfl (Nat.le_of_ble_eq_true rfl) ⟨by decide, by decide⟩ ⟨Nat.zero_le _, Nat.zero_le _⟩ (k_I ?_)
  refine j_callV C (cm_least hS3 hW hz hp (by omega) (by omega)) dX6_correct_46 rfl (by decide) (T := TX6) rfl gX6_correct_X6_least rfl kd_X6_least rfl rfl (Nat.le_of_ble_eq_true rfl) ⟨by decide, by decide⟩ ⟨Nat.zero_le _, Nat.zero_le _⟩ (k_IQ fun M4 hq => ?_)
  obtain ⟨hF, hv⟩ := hq
  have hF2 : Fr M3 M4 js0 k8 := hF.mono (fun a ha => ha.elim) (fun a h => h)
  have hS4 : Sm M4 0 S.1 := hS3.fr hF (fun _ _ h => h)
  have h5 : M4.2.1 84 5 = nI 0 := (hF.2.2 5 (by omega)).trans ((ho.2.2 5 (by unfold k1; omega)).trans setV_eq)
  refine j_istore_n C dX6_correct_49 (by decide) ?_
  refine j_iload_n C dX6_correct_50 rfl ?_
  refine j_iconst C dX6_correct_51 (v := -1) (by decide) ?_
  refine j_icmp_neL C dX6_correct_52 (tgt := 68) (by decide) (by omega) (fun cq52 => ?_) (fun cq52 => ?_)
  · obtain ⟨k, hk0⟩ := Nat.exists_eq_succ_of_ne_zero cq52
    have hk1 : az.1 = k + 1 := hk0
    obtain ⟨w8, w9, w10⟩ := hv k hk1
    refine j_iconst C dX6_correct_68 (v := nI 4) (by decide) ?_
    refine j_aload_n C dX6_correct_69 rfl ?_
    refine j_iload_n C dX6_correct_70 rfl ?_
    refine j_callV C (cm_figure hS4 hW (by omega)) dX6_correct_71 rfl (by decide) (T := TX6) rfl gX6_correct_X6_figure rfl kd_X6_figure rfl rfl (Nat.le_of_ble_eq_true rfl) ⟨by decide, by decide⟩ ⟨Nat.zero_le _, Nat.zero_le _⟩ (k_I ?_)
    refine j_imulN C dX6_correct_74 ?_
    refine j_istore C dX6_correct_75 (by decide) ?_
    refine j_aload_n C dX6_correct_77 rfl ?_
    refine j_getf C dX6_correct_78 rfl (by decide) (T := TX6) rfl in_X6_correct_X6 (k := 0) (by decide) fl_X6_correct_7 rfl rfl ?_
    refine j_iload C dX6_correct_81 rfl ?_
    refine j_aload_n C dX6_correct_83 rfl ?_
    refine j_getf C dX6_correct_84 rfl (by decide) (T := TX6) rfl in_X6_correct_X6 (k := 8) (by decide) fl_X6_correct_71 rfl rfl ?_
    refine j_top C (_) w8 ?_
    refine j_iastN C dX6_correct_87 (show ilen 85 = some 531 from rfl) (by omega) (by decide) ?_
    have hS5 := Sm_upN (k := 4 * S.1 (45 + 2 * ch)) (v := k / 100) hS4 (by omega) (by omega) (by omega)
    refine j_aload_n C dX6_correct_88 rfl ?_
    refine j_getf C dX6_correct_89 rfl (by decide) (T := TX6) rfl in_X6_correct_X6 (k := 0) (by decide) fl_X6_correct_7 rfl rfl ?_
    refine j_iload C dX6_correct_92 rfl ?_
    refine j_iconst C dX6_correct_94 (v := nI 1) (by decide) ?_
    refine j_iaddN C dX6_correct_95 ?_
    refine j_aload_n C dX6_correct_96 rfl ?_
    refine j_getf C dX6_correct_97 rfl (by decide) (T := TX6) rfl in_X6_correct_X6 (k := 9) (by decide) fl_X6_correct_74 rfl rfl ?_
    refine j_top C (_) w9 ?_
    refine j_iastN C dX6_correct_100 (show ilen 85 = some 531 from rfl) (by omega) (by decide) ?_
    have hS6 := Sm_upN (k := 4 * S.1 (45 + 2 * ch) + 1) (v := k / 10 % 10) hS5 (by omega) (by omega) (by omega)
    refine j_aload_n C dX6_correct_101 rfl ?_
    refine j_getf C dX6_correct_102 rfl (by decide) (T := TX6) rfl in_X6_correct_X6 (k := 0) (by decide) fl_X6_correct_7 rfl rfl ?_
    refine j_iload C dX6_correct_105 rfl ?_
    refine j_iconst C dX6_correct_107 (v := nI 2) (by decide) ?_
    refine j_iaddN C dX6_correct_108 ?_
    refine j_aload_n C dX6_correct_109 rfl ?_
    refine j_getf C dX6_correct_110 rfl (by decide) (T := TX6) rfl in_X6_correct_X6 (k := 10) (by decide) fl_X6_correct_77 rfl rfl ?_
    refine j_top C (_) w10 ?_
    refine j_iastN C dX6_correct_113 (show ilen 85 = some 531 from rfl) (by omega) (by decide) ?_
    have hS7 := Sm_upN (k := 4 * S.1 (45 + 2 * ch) + 2) (v := k % 10) hS6 (by omega) (by omega) (by omega)
    have e57 : upS (upS (upS S.1 (4 * S.1 (45 + 2 * ch)) (k / 100)) (4 * S.1 (45 + 2 * ch) + 1) (k / 10 % 10)) (4 * S.1 (45 + 2 * ch) + 2) (k % 10) 57 = S.1 57 := upc_ne (i := S.1 (45 + 2 * ch)) (by omega) (by omega) (by omega)
    refine j_aload_n C dX6_correct_114 rfl ?_
    refine j_getf C dX6_correct_115 rfl (by decide) (T := TX6) rfl in_X6_correct_X6 (k := 0) (by decide) fl_X6_correct_7 rfl rfl ?_
    refine j_bipush C dX6_correct_118 (v := nI 57) (by decide) ?_
    refine j_dup2 C dX6_correct_120 rfl rfl ?_
    refine j_ialdN C dX6_correct_121 (show ilen 85 = some 531 from rfl) (by omega) (by decide) ?_
    refine j_top C _ ((m_co hS7).trans (congrArg nI e57)) ?_
    refine j_iload_n C dX6_correct_122 rfl ?_
    refine j_top C (_) (lsR_1 hk1) ?_
    refine j_if_leN C dX6_correct_123 (tgt := 130) (by decide) (by omega) (fun cq123 => ?_) (fun cq123 => ?_)
    · have hG := mm_G (c := 0) hz hk1 (by omega)
      refine j_iconst C dX6_correct_130 (v := nI 0) (by decide) ?_
      refine j_iaddN C dX6_correct_131 ?_
      refine j_iastN C dX6_correct_132 (show ilen 85 = some 531 from rfl) (by omega) (by decide) ?_
      refine j_iload_n C dX6_correct_133 rfl ?_
      exact j_ireturn C hret dX6_correct_134 ⟨rfl, by rw [← hG]; exact hX3.cur (ks := k8) (Sm_upN hS7 (by decide) (by decide) (by decide)) ((((hF2.tr (Fr.R (by unfold js0; omega))).tr (Fr.R (by unfold js0; omega))).tr (Fr.R (by unfold js0; omega))).tr (Fr.R (by unfold js0; omega))) (by unfold k8; omega) (by unfold k8; omega), ((((((Fr.V (js := noJ) (ks := fun k => k = 5) rfl).off.tr ho.off).tr hF.off).tr (Off.R (by unfold inM; omega))).tr (Off.R (by unfold inM; omega))).tr (Off.R (by unfold inM; omega))).tr (Off.R (by unfold inM; omega)), h5⟩
    · have hG := mm_G (c := 1) hz hk1 (by omega)
      refine j_iconst C dX6_correct_126 (v := nI 1) (by decide) ?_
      refine j_goto C dX6_correct_127 (tgt := 131) (by decide) ?_
      refine j_iaddN C dX6_correct_131 ?_
      refine j_iastN C dX6_correct_132 (show ilen 85 = some 531 from rfl) (by omega) (by decide) ?_
      refine j_iload_n C dX6_correct_133 rfl ?_
      exact j_ireturn C hret dX6_correct_134 ⟨rfl, by rw [← hG]; exact hX3.cur (ks := k8) (Sm_upN hS7 (by decide) (by decide) (by decide)) ((((hF2.tr (Fr.R (by unfold js0; omega))).tr (Fr.R (by unfold js0; omega))).tr (Fr.R (by unfold js0; omega))).tr (Fr.R (by unfold js0; omega))) (by unfold k8; omega) (by unfold k8; omega), ((((((Fr.V (js := noJ) (ks := fun k => k = 5) rfl).off.tr ho.off).tr hF.off).tr (Off.R (by unfold inM; omega))).tr (Off.R (by unfold inM; omega))).tr (Off.R (by unfold inM; omega))).tr (Off.R (by unfold inM; omega)), h5⟩
  · refine j_aload_n C dX6_correct_55 rfl ?_
    refine j_getf C dX6_correct_56 rfl (by decide) (T := TX6) rfl in_X6_correct_X6 (k := 0) (by decide) fl_X6_correct_7 rfl rfl ?_
    refine j_bipush C dX6_correct_59 (v := nI 58) (by decide) ?_
    refine j_dup2 C dX6_correct_61 rfl rfl ?_
    refine j_ialdN C dX6_correct_62 (show ilen 85 = some 531 from rfl) (by omega) (by decide) ?_
    refine j_top C _ (m_re hS4) ?_
    refine j_iconst C dX6_correct_63 (v := nI 1) (by decide) ?_
    refine j_iaddN C dX6_correct_64 ?_
    refine j_iastN C dX6_correct_65 (show ilen 85 = some 531 from rfl) (by omega) (by decide) ?_
    refine j_iconst C dX6_correct_66 (v := -1) (by decide) ?_
    exact j_ireturn C hret dX6_correct_67 ⟨by rw [lsR_0 cq52], by rw [mrS_0 cq52]; exact hX3.cur (ks := k8) (Sm_upN hS4 (by decide) (by decide) (by decide)) (hF2.tr (Fr.R (by unfold js0; omega))) (by unfold k8; omega) (by unfold k8; omega), (((Fr.V (js := noJ) (ks := fun k => k = 5) rfl).off.tr ho.off).tr hF.off).tr (Off.R (by unfold inM; omega)), h5⟩

set_option maxHeartbeats 4000000 in
set_option maxRecDepth 100000 in
theorem cn_load {l : Launch} {G : GG} {M : MM} {S : SS} (hX : Xm M S) (hO : OkS S) (ht : tpT S.2.2.2.2.2.1 S.2.2.2.2.2.2 = true) : Ct l G yX6_load wsX6_load 7 ([.ref (G.2.2 84)] : List Value) M (fun v9 M9 => v9 = some (.int (nI (pr (gvS S.1 S.2.2.2.2.2.2 (S.2.2.2.2.2.1 / 6 + 1)) 0))) ∧ Xm M9 (setT (svW S (gvS S.1 S.2.2.2.2.2.2 (S.2.2.2.2.2.1 / 6 + 1))) 0 S.2.2.2.2.2.2) ∧ Off M M9 inM ∧ M9.2.1 84 5 = nI 0) := by
  have hS := hX.1
  have hW := hO.1
  obtain ⟨h5, -⟩ := tpT_ok ht
  have he := tpT_er ht
  have hn60 := hX.2.2.2.2.1
  refine Ct.of (cc := cX6_load) (maxL := 4) (ret := (some .int)) (lv := [(0, .ref (G.2.2 84))]) (by decide) rfl rfl (Nat.le_of_ble_eq_true rfl) ?_
  intro pg ev sg mm bl mt cd AZ C hret
  refine j_aload_n C dX6_load_0 rfl ?_
  refine j_aload_n C dX6_load_1 rfl ?_
  refine j_getf C dX6_load_2 rfl (by decide) (T := TX6) rfl in_X6_load_X6 (k := 4) (by decide) fl_X6_load_127 rfl rfl ?_
  refine j_top C (_) hX.2.2.2.2.2.1 ?_
  refine j_bipush C dX6_load_5 (v := nI 6) (by decide) ?_
  refine j_iremN C dX6_load_7 (by omega) (by decide) (by decide) ?_
  refine j_iconst C dX6_load_8 (v := nI 5) (by decide) ?_
  refine j_icmp_neN C dX6_load_9 (tgt := 27) (by decide) (by omega) (by omega) (fun cq9 => absurd cq9 (by omega)) (fun cq9 => ?_)
  refine j_aload_n C dX6_load_12 rfl ?_
  refine j_callV C (cm_error hX.2.2.2.2) dX6_load_13 rfl (by decide) (T := TX6) rfl gX6_load_X6_error rfl kd_X6_error rfl rfl (Nat.le_of_ble_eq_true rfl) ⟨by decide, by decide⟩ ⟨Nat.zero_le _, Nat.zero_le _⟩ (k_I ?_)
  refine j_aload_n C dX6_load_16 rfl ?_
  refine j_getf C dX6_load_17 rfl (by decide) (T := TX6) rfl in_X6_load_X6 (k := 4) (by decide) fl_X6_load_127 rfl rfl ?_
  refine j_top C (_) hX.2.2.2.2.2.1 ?_
  refine j_icmp_neN C dX6_load_20 (tgt := 27) (by decide) (by omega) (by omega) (fun cq20 => absurd cq20 (by omega)) (fun cq20 => ?_)
  refine j_iconst C dX6_load_23 (v := nI 1) (by decide) ?_
  refine j_top C (bI true) rfl ?_
  refine j_goto C dX6_load_24 (tgt := 28) (by decide) ?_
  refine j_iconst C dX6_load_28 (v := nI 1) (by decide) ?_
  refine j_top C (bI true) rfl ?_
  refine j_callV C cm_goes dX6_load_29 rfl (by decide) (T := TX6) rfl gX6_load_X6_goes rfl kd_X6_goes rfl rfl (Nat.le_of_ble_eq_true rfl) ⟨by decide, by decide⟩ ⟨Nat.zero_le _, Nat.zero_le _⟩ (k_I ?_)
  refine j_top C (bI true) rfl ?_
  have hX1 : Xm (setV M 84 5 (nI (thr true true))) S := hX.thr
  have hS1 := hX1.1
  refine j_if_neB C dX6_load_32 (tgt := 37) (by decide) (fun cq32 => ?_) (fun cq32 => absurd cq32 (by decide))
  refine j_aload_n C dX6_load_37 rfl ?_
  refine j_callV C (cm_saves hX1.2.1 hX1.1) dX6_load_38 rfl (by decide) (T := TX6) rfl gX6_load_X6_saves rfl kd_X6_saves rfl rfl (Nat.le_of_ble_eq_true rfl) ⟨by decide, by decide⟩ ⟨Nat.zero_le _, Nat.zero_le _⟩ (k_VQ fun M3 hq => ?_)
  obtain ⟨hm, ho⟩ := hq
  have hX3 := hX1.save hm ho
  have hS3 : Sm M3 0 S.1 := hX3.1
  refine j_iconst C dX6_load_41 (v := nI 0) (by decide) ?_
  refine j_istore_n C dX6_load_42 (by decide) ?_
  have L43 : ∀ k, k ≤ S.2.2.2.2.2.1 / 6 + 1 → ∀ M2 : MM, Sm M2 0 (gvS S.1 S.2.2.2.2.2.2 k) → Fr M3 M2 js0 noJ → J G pg l ev (rmD 7) sg mm ([.ref (G.2.2 84)] : List Value).toArray bl mt cd AZ 4 (MQ bl (QQ G (fun v9 M9 => v9 = some (.int (nI (pr (gvS S.1 S.2.2.2.2.2.2 (S.2.2.2.2.2.1 / 6 + 1)) 0))) ∧ Xm M9 (setT (svW S (gvS S.1 S.2.2.2.2.2.2 (S.2.2.2.2.2.1 / 6 + 1))) 0 S.2.2.2.2.2.2) ∧ Off M M9 inM ∧ M9.2.1 84 5 = nI 0) AZ) ([.ref (G.2.2 84)] : List Value).toArray sg 0 0 AZ) 0 0 43 [(0, .ref (G.2.2 84)), (1, .int (nI (6 * k)))] [] (M2) := by
    refine dnto ?_
    intro k hk43 ih43 M2 hS2 hF2
    have hX2 := hX3.cur (ks := noJ) hS2 hF2 (fun h => h) (fun h => h)
    have hT2 : Tm M2 S.2.2.2.2.2.1 S.2.2.2.2.2.2 := hX2.2.2.2.2
    refine j_iload_n C dX6_load_43 rfl ?_
    refine j_aload_n C dX6_load_44 rfl ?_
    refine j_getf C dX6_load_45 rfl (by decide) (T := TX6) rfl in_X6_load_X6 (k := 4) (by decide) fl_X6_load_127 rfl rfl ?_
    refine j_top C (_) hT2.2.1 ?_
    refine j_icmp_geN C dX6_load_48 (tgt := 103) (by decide) (by omega) (by omega) (fun cq48 => ?_) (fun cq48 => ?_)
    · have e9 : k = S.2.2.2.2.2.1 / 6 + 1 := by omega
      subst e9
      have hW9 := hW.gvS ht (S.2.2.2.2.2.1 / 6 + 1) (by omega)
      refine j_aload_n C dX6_load_103 rfl ?_
      refine j_iconst C dX6_load_104 (v := nI 0) (by decide) ?_
      refine j_putf C dX6_load_105 rfl (by decide) (T := TX6) rfl in_X6_load_X6 tyX6 tyX6_ok nmX6 (k := 4) (by decide) fl_X6_load_127 rfl rfl (by decide +kernel) (Nat.le_of_ble_eq_true rfl) rfl ?_
      refine j_aload_n C dX6_load_108 rfl ?_
      refine j_iconst C dX6_load_109 (v := nI 0) (by decide) ?_
      refine j_callV C (cm_pairs (M := setV M2 84 4 (nI 0)) (p := 0) hS2 hW9 (by decide)) dX6_load_110 rfl (by decide) (T := TX6) rfl gX6_load_X6_pairs rfl kd_X6_pairs rfl rfl (Nat.le_of_ble_eq_true rfl) ⟨by decide, by decide⟩ ⟨Nat.zero_le _, Nat.zero_le _⟩ (k_I ?_)
      exact j_ireturn C hret dX6_load_113 ⟨rfl, hX2.clr, (((Fr.V (js := noJ) (ks := fun k => k = 5) rfl).off.tr ho.off).tr hF2.off).tr (Off.V (by unfold inM; omega)), (setV_nk (by decide)).trans ((hF2.2.2 5 (fun h => h)).trans ((ho.2.2 5 (by unfold k1; omega)).trans setV_eq))⟩
    · obtain ⟨q0, -⟩ := (tpT_ok ht).2 k (by omega)
      have qd := fun m (hm : m < 3) => tpT_dg ht (k := k) (m := m) (by omega) hm
      refine j_iconst C dX6_load_51 (v := nI 4) (by decide) ?_
      refine j_aload_n C dX6_load_52 rfl ?_
      refine j_getf C dX6_load_53 rfl (by decide) (T := TX6) rfl in_X6_load_X6 (k := 3) (by decide) fl_X6_load_17 rfl rfl ?_
      refine j_iload_n C dX6_load_56 rfl ?_
      refine j_caldN C dX6_load_57 (by omega) ?_
      refine j_top C _ (hT2.2.2.1 _ (by omega)) ?_
      refine j_bipush C dX6_load_58 (v := nI 48) (by decide) ?_
      refine j_isubN C dX6_load_60 (by omega) ?_
      refine j_imulN C dX6_load_61 ?_
      refine j_istore_n C dX6_load_62 (by decide) ?_
      refine j_iconst C dX6_load_63 (v := nI 0) (by decide) ?_
      refine j_istore_n C dX6_load_64 (by decide) ?_
      have L65 : ∀ m, m ≤ 3 → ∀ M4 : MM, Sm M4 0 (gvP (gvS S.1 S.2.2.2.2.2.2 k) S.2.2.2.2.2.2 k m) → Fr M2 M4 js0 noJ → J G pg l ev (rmD 7) sg mm ([.ref (G.2.2 84)] : List Value).toArray bl mt cd AZ 4 (MQ bl (QQ G (fun v9 M9 => v9 = some (.int (nI (pr (gvS S.1 S.2.2.2.2.2.2 (S.2.2.2.2.2.1 / 6 + 1)) 0))) ∧ Xm M9 (setT (svW S (gvS S.1 S.2.2.2.2.2.2 (S.2.2.2.2.2.1 / 6 + 1))) 0 S.2.2.2.2.2.2) ∧ Off M M9 inM ∧ M9.2.1 84 5 = nI 0) AZ) ([.ref (G.2.2 84)] : List Value).toArray sg 0 0 AZ) 0 0 65 [(0, .ref (G.2.2 84)), (1, .int (nI (6 * k))), (2, .int (nI (4 * (S.2.2.2.2.2.2 (6 * k) - 48)))), (3, .int (nI m))] [] (M4) := by
        refine dnto ?_
        intro m hm65 ih65 M4 hS4 hF4
        have hT4 : Tm M4 S.2.2.2.2.2.1 S.2.2.2.2.2.2 := (hX2.cur (ks := noJ) hS4 hF4 (fun h => h) (fun h => h)).2.2.2.2
        refine j_iload_n C dX6_load_65 rfl ?_
        refine j_iconst C dX6_load_66 (v := nI 3) (by decide) ?_
        refine j_icmp_geN C dX6_load_67 (tgt := 97) (by decide) (by omega) (by omega) (fun cq67 => ?_) (fun cq67 => ?_)
        · have e3 : m = 3 := by omega
          refine j_iincN C dX6_load_97 rfl (by decide) ?_
          refine j_goto C dX6_load_100 (tgt := 43) (by decide) ?_
          exact j_pick [0, 1] (ih43 (by omega) _ (by rw [← gvP_3, ← e3]; exact hS4) (hF2.tr hF4))
        · obtain ⟨q5, q6⟩ := qd m (by omega)
          refine j_aload_n C dX6_load_70 rfl ?_
          refine j_getf C dX6_load_71 rfl (by decide) (T := TX6) rfl in_X6_load_X6 (k := 0) (by decide) fl_X6_load_7 rfl rfl ?_
          refine j_iload_n C dX6_load_74 rfl ?_
          refine j_iload_n C dX6_load_75 rfl ?_
          refine j_iaddN C dX6_load_76 ?_
          refine j_aload_n C dX6_load_77 rfl ?_
          refine j_getf C dX6_load_78 rfl (by decide) (T := TX6) rfl in_X6_load_X6 (k := 3) (by decide) fl_X6_load_17 rfl rfl ?_
          refine j_iload_n C dX6_load_81 rfl ?_
          refine j_iconst C dX6_load_82 (v := nI 2) (by decide) ?_
          refine j_iaddN C dX6_load_83 ?_
          refine j_iload_n C dX6_load_84 rfl ?_
          refine j_iaddN C dX6_load_85 ?_
          refine j_caldN C dX6_load_86 (by omega) ?_
          refine j_top C _ (hT4.2.2.1 _ (by omega)) ?_
          refine j_bipush C dX6_load_87 (v := nI 48) (by decide) ?_
          refine j_isubN C dX6_load_89 (by omega) ?_
          refine j_iastN C dX6_load_90 (show ilen 85 = some 531 from rfl) (by omega) (by decide) ?_
          refine j_iincN C dX6_load_91 rfl (by decide) ?_
          refine j_goto C dX6_load_94 (tgt := 65) (by decide) ?_
          exact ih65 (by omega) _ (Sm_upN hS4 (by omega) (by omega) (by omega)) (hF4.tr (Fr.R (by unfold js0; omega)))
      exact L65 0 (by omega) M2 hS2 Fr.rf
  exact L43 0 (by omega) M3 hS3 Fr.rf
