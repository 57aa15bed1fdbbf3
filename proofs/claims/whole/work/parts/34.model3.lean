set_option maxRecDepth 20000 in
theorem in_X6_least_X6 : ∀ w ∈ wsX60, w ∈ wsX6_least := by decide +kernel
set_option maxRecDepth 20000 in
theorem fl_X6_least_7 : Cond.fieldLink RX6 7 "PotLabelsModel" "s" "[I" ∈ wsX6_least := by decide +kernel
set_option maxRecDepth 20000 in
theorem fl_X6_least_71 : Cond.fieldLink RX6 71 "PotLabelsModel" "red" "I" ∈ wsX6_least := by decide +kernel
set_option maxRecDepth 20000 in
theorem fl_X6_least_74 : Cond.fieldLink RX6 74 "PotLabelsModel" "green" "I" ∈ wsX6_least := by decide +kernel
set_option maxRecDepth 20000 in
theorem fl_X6_least_77 : Cond.fieldLink RX6 77 "PotLabelsModel" "blue" "I" ∈ wsX6_least := by decide +kernel
set_option maxRecDepth 20000 in
theorem in_X6_copies_X6 : ∀ w ∈ wsX60, w ∈ wsX6_copies := by decide +kernel
set_option maxRecDepth 20000 in
theorem fl_X6_copies_7 : Cond.fieldLink RX6 7 "PotLabelsModel" "s" "[I" ∈ wsX6_copies := by decide +kernel
set_option maxRecDepth 20000 in
theorem in_X6_saves_X6 : ∀ w ∈ wsX60, w ∈ wsX6_saves := by decide +kernel
set_option maxRecDepth 20000 in
theorem fl_X6_saves_35 : Cond.fieldLink RX6 35 "PotLabelsModel" "saved" "I" ∈ wsX6_saves := by decide +kernel
set_option maxRecDepth 20000 in
theorem kd_X6_copies : yX6_copies.cls = RX6 ∧ yX6_copies.cls ≠ "java/lang/invoke/MethodHandle" ∧ yX6_copies.cls ≠ "java/lang/invoke/VarHandle" ∧ (parseMethodDescriptor yX6_copies.desc).map (fun d => d.parameters.length) = some 2 := by decide +kernel
set_option maxRecDepth 20000 in
theorem kd_X6_saves : yX6_saves.cls = RX6 ∧ yX6_saves.cls ≠ "java/lang/invoke/MethodHandle" ∧ yX6_saves.cls ≠ "java/lang/invoke/VarHandle" ∧ (parseMethodDescriptor yX6_saves.desc).map (fun d => d.parameters.length) = some 0 := by decide +kernel
set_option maxRecDepth 20000 in
theorem in_X6_sets_X6 : ∀ w ∈ wsX60, w ∈ wsX6_sets := by decide +kernel
set_option maxRecDepth 20000 in
theorem fl_X6_sets_7 : Cond.fieldLink RX6 7 "PotLabelsModel" "s" "[I" ∈ wsX6_sets := by decide +kernel
section JV
variable {G : GG} {p : Program} {l : Launch} {e : Env} {R : Room} {s : State} {m : MethodId} {args : Array Value} {below : List Frame} {meth : Method} {c : Code} {A : Nat → Prop} {nL : Nat} {Q : State → Prop} {k9 n9 pc : Nat} {lv : List (Nat × Value)} {st : List Value} {M : MM}
theorem j_lv (lv2 : List (Nat × Value)) (h : lv = lv2) (k : J G p l e R s m args below meth c A nL Q k9 n9 pc lv2 st M) : J G p l e R s m args below meth c A nL Q k9 n9 pc lv st M := by subst h; exact k
end JV
theorem chg_sum (σ : Sg) (i k : Nat) : ad (σ (4 * i)) (k / 100) + ad (σ (4 * i + 1)) (k / 10 % 10) + ad (σ (4 * i + 2)) (k % 10) = chg σ i k := by
  unfold chg dist sR sG sB
  rfl
theorem ls_put {M M2 : MM} {a : Nat × Nat} {k i : Nat} {σ : Sg} (h : Fr M M2 noJ (fun k => k = 8 ∨ k = 9 ∨ k = 10) ∧ ∀ k, a.1 = k + 1 → M2.2.1 84 8 = nI (k / 100) ∧ M2.2.1 84 9 = nI (k / 10 % 10) ∧ M2.2.1 84 10 = nI (k % 10)) : Fr M (setV (setV (setV M2 84 8 (nI (k / 100))) 84 9 (nI (k / 10 % 10))) 84 10 (nI (k % 10))) noJ (fun k => k = 8 ∨ k = 9 ∨ k = 10) ∧ ∀ k9, (k + 1, chg σ i k).1 = k9 + 1 → (setV (setV (setV M2 84 8 (nI (k / 100))) 84 9 (nI (k / 10 % 10))) 84 10 (nI (k % 10))).2.1 84 8 = nI (k9 / 100) ∧ (setV (setV (setV M2 84 8 (nI (k / 100))) 84 9 (nI (k / 10 % 10))) 84 10 (nI (k % 10))).2.1 84 9 = nI (k9 / 10 % 10) ∧ (setV (setV (setV M2 84 8 (nI (k / 100))) 84 9 (nI (k / 10 % 10))) 84 10 (nI (k % 10))).2.1 84 10 = nI (k9 % 10) := by
  refine ⟨((h.1.tr (Fr.V (Or.inl rfl))).tr (Fr.V (Or.inr (Or.inl rfl)))).tr (Fr.V (Or.inr (Or.inr rfl))), fun k9 hk => ?_⟩
  have e : k = k9 := by have : k + 1 = k9 + 1 := hk; omega
  subst e
  exact ⟨by rw [setV_nk (by decide), setV_nk (by decide), setV_eq], by rw [setV_nk (by decide), setV_eq], setV_eq⟩

theorem cp_put {M M2 : MM} {fr to n : Nat} (hn : n < 59) (hne : fr ≠ to) (h : (∀ k, k < n → M2.1 85 (59 * to + k) = M.1 85 (59 * fr + k)) ∧ Fr M M2 (fun j => 59 * to ≤ j ∧ j < 59 * to + 59) noJ) : (∀ k, k < n + 1 → (setR M2 85 (59 * to + n) (M2.1 85 (59 * fr + n))).1 85 (59 * to + k) = M.1 85 (59 * fr + k)) ∧ Fr M (setR M2 85 (59 * to + n) (M2.1 85 (59 * fr + n))) (fun j => 59 * to ≤ j ∧ j < 59 * to + 59) noJ := by
  refine ⟨fun k hk => ?_, h.2.tr (Fr.R (by omega))⟩
  rw [setR_eq]
  by_cases e : k = n
  · subst e
    rw [upd_eq]
    exact h.2.2.1 _ (by omega)
  · rw [upd_ne (by omega)]; exact h.1 k (by omega)

set_option maxHeartbeats 4000000 in
set_option maxRecDepth 100000 in
theorem cm_copies {l : Launch} {G : GG} {M : MM} {fr to : Nat} (hf : fr < 9) (ht : to < 9) (hne : fr ≠ to) : Ct l G yX6_copies wsX6_copies 1 ([.ref (G.2.2 84), .int (nI fr), .int (nI to)] : List Value) M (fun v9 M9 => v9 = none ∧ (∀ k, k < 59 → M9.1 85 (59 * to + k) = M.1 85 (59 * fr + k)) ∧ Fr M M9 (fun j => 59 * to ≤ j ∧ j < 59 * to + 59) noJ) := by
  refine Ct.of (cc := cX6_copies) (maxL := 4) (ret := none) (lv := [(0, .ref (G.2.2 84)), (1, .int (nI fr)), (2, .int (nI to))]) (by decide) rfl rfl (Nat.le_of_ble_eq_true rfl) ?_
  intro pg ev sg mm bl mt cd AZ C hret
  refine j_iconst C dX6_copies_0 (v := nI 0) (by decide) ?_
  refine j_istore_n C dX6_copies_1 (by decide) ?_
  have L2 : ∀ n, n ≤ 59 → ∀ M2 : MM, ((∀ k, k < n → M2.1 85 (59 * to + k) = M.1 85 (59 * fr + k)) ∧ Fr M M2 (fun j => 59 * to ≤ j ∧ j < 59 * to + 59) noJ) → J G pg l ev (rmD 1) sg mm ([.ref (G.2.2 84), .int (nI fr), .int (nI to)] : List Value).toArray bl mt cd AZ 4 (MQ bl (QQ G (fun v9 M9 => v9 = none ∧ (∀ k, k < 59 → M9.1 85 (59 * to + k) = M.1 85 (59 * fr + k)) ∧ Fr M M9 (fun j => 59 * to ≤ j ∧ j < 59 * to + 59) noJ) AZ) ([.ref (G.2.2 84), .int (nI fr), .int (nI to)] : List Value).toArray sg 0 0 AZ) 0 0 2 [(0, .ref (G.2.2 84)), (1, .int (nI fr)), (2, .int (nI to)), (3, .int (nI n))] [] (M2) := by
    refine dnto ?_
    intro n hn2 ih2 M2 hF
    refine j_iload_n C dX6_copies_2 rfl ?_
    refine j_bipush C dX6_copies_3 (v := nI 59) (by decide) ?_
    refine j_icmp_geN C dX6_copies_5 (tgt := 36) (by decide) (by omega) (by omega) (fun cq5 => ?_) (fun cq5 => ?_)
    · exact j_return C hret dX6_copies_36 ⟨rfl, fun k hk => hF.1 k (by omega), hF.2⟩
    · have hn9 := cq5
      refine j_aload_n C dX6_copies_8 rfl ?_
      refine j_getf C dX6_copies_9 rfl (by decide) (T := TX6) rfl in_X6_copies_X6 (k := 0) (by decide) fl_X6_copies_7 rfl rfl ?_
      refine j_bipush C dX6_copies_12 (v := nI 59) (by decide) ?_
      refine j_iload_n C dX6_copies_14 rfl ?_
      refine j_imulN C dX6_copies_15 ?_
      refine j_iload_n C dX6_copies_16 rfl ?_
      refine j_iaddN C dX6_copies_17 ?_
      refine j_aload_n C dX6_copies_18 rfl ?_
      refine j_getf C dX6_copies_19 rfl (by decide) (T := TX6) rfl in_X6_copies_X6 (k := 0) (by decide) fl_X6_copies_7 rfl rfl ?_
      refine j_bipush C dX6_copies_22 (v := nI 59) (by decide) ?_
      refine j_iload_n C dX6_copies_24 rfl ?_
      refine j_imulN C dX6_copies_25 ?_
      refine j_iload_n C dX6_copies_26 rfl ?_
      refine j_iaddN C dX6_copies_27 ?_
      refine j_ialdN C dX6_copies_28 (show ilen 85 = some 531 from rfl) (by omega) (by decide) ?_
      refine j_iastN C dX6_copies_29 (show ilen 85 = some 531 from rfl) (by omega) (by decide) ?_
      refine j_iincN C dX6_copies_30 rfl (by decide) ?_
      refine j_goto C dX6_copies_33 (tgt := 2) (by decide) ?_
      exact ih2 (by omega) _ (cp_put hn9 hne hF)
  exact L2 0 (by omega) M ⟨fun k h => absurd h (Nat.not_lt_zero k), Fr.rf⟩

theorem Sm_copy {M M9 : MM} {fr to : Nat} {σ : Sg} (h : Sm M fr σ) (hc : ∀ k, k < 59 → M9.1 85 (59 * to + k) = M.1 85 (59 * fr + k)) : Sm M9 to σ := fun k hk => (hc k hk).trans (h k hk)
/-- the model's saved states -/
def Mm (M : MM) (n : Nat) (sv : Nat → Sg) : Prop := n ≤ 6 ∧ M.2.1 84 1 = nI n ∧ ∀ k, k < n → Sm M (k + 1) (sv k)
def jsS : Nat → Prop := fun j => 59 ≤ j ∧ j < 59 * 7
def k1 : Nat → Prop := fun k => k = 1

theorem Mm_put {M M3 : MM} {n : Nat} {sv : Nat → Sg} {σ : Sg} (hM : Mm M n sv) (hS : Sm M 0 σ) (hn : n < 6) (hq1 : ∀ k, k < 59 → M3.1 85 (59 * (n + 1) + k) = (setV M 84 1 (nI (n + 1))).1 85 (59 * 0 + k)) (hq2 : Fr (setV M 84 1 (nI (n + 1))) M3 (fun j => 59 * (n + 1) ≤ j ∧ j < 59 * (n + 1) + 59) noJ) : Mm M3 (n + 1) (fun k => if k = n then σ else sv k) := by
  refine ⟨hn, (hq2.2.2 1 (fun h => h)).trans setV_eq, fun k hk => ?_⟩
  show Sm M3 (k + 1) (if k = n then σ else sv k)
  by_cases e : k = n
  · subst e; rw [if_pos rfl]; exact Sm_copy (fr := 0) hS hq1
  · rw [if_neg e]
    exact Sm.fr (M := setV M 84 1 (nI (n + 1))) (hM.2.2 k (by omega)) hq2 (fun j hj => by omega)
/-- the saved states ahead of the place n have moved down -/
def Sh (M M2 : MM) (sv : Nat → Sg) (n : Nat) : Prop := (∀ k, k < 6 → Sm M2 (k + 1) (if k + 1 < n then sv (k + 1) else sv k)) ∧ Fr M M2 jsS noJ
theorem Sh_s {M M2 M3 : MM} {sv : Nat → Sg} {n : Nat} (hn0 : 0 < n) (hn : n < 6) (h : Sh M M2 sv n) (hq1 : ∀ k, k < 59 → M3.1 85 (59 * n + k) = M2.1 85 (59 * (n + 1) + k)) (hq2 : Fr M2 M3 (fun j => 59 * n ≤ j ∧ j < 59 * n + 59) noJ) : Sh M M3 sv (n + 1) := by
  refine ⟨fun k hk => ?_, h.2.tr (hq2.mono (fun a ha => by unfold jsS; omega) (fun a h => h))⟩
  by_cases e : k + 1 = n
  · rw [if_pos (by omega)]
    have h1 := h.1 n hn
    rw [if_neg (by omega)] at h1
    rw [e]
    exact Sm_copy (fr := n + 1) h1 hq1
  · have h1 := Sm.fr (h.1 k hk) hq2 (fun j hj => by omega)
    by_cases e2 : k + 1 < n
    · rw [if_pos e2] at h1; rw [if_pos (by omega)]; exact h1
    · rw [if_neg e2] at h1; rw [if_neg (by omega)]; exact h1
theorem Mm_put6 {M M2 M3 : MM} {sv : Nat → Sg} {σ : Sg} (h : Sh M M2 sv 6) (hS : Sm M2 0 σ) (hq1 : ∀ k, k < 59 → M3.1 85 (59 * 6 + k) = (setV (setV M2 84 1 (nI 5)) 84 1 (nI 6)).1 85 (59 * 0 + k)) (hq2 : Fr (setV (setV M2 84 1 (nI 5)) 84 1 (nI 6)) M3 (fun j => 59 * 6 ≤ j ∧ j < 59 * 6 + 59) noJ) : Mm M3 6 (fun k => if k = 5 then σ else sv (k + 1)) := by
  refine ⟨by decide, (hq2.2.2 1 (fun h => h)).trans setV_eq, fun k hk => ?_⟩
  show Sm M3 (k + 1) (if k = 5 then σ else sv (k + 1))
  by_cases e : k = 5
  · subst e; rw [if_pos rfl]; exact Sm_copy (fr := 0) hS hq1
  · rw [if_neg e]
    have h1 := h.1 k hk
    rw [if_pos (by omega)] at h1
    exact Sm.fr (M := setV (setV M2 84 1 (nI 5)) 84 1 (nI 6)) h1 hq2 (fun j hj => by omega)

set_option maxHeartbeats 4000000 in
set_option maxRecDepth 100000 in
theorem cm_saves_a {l : Launch} {G : GG} {M : MM} {n : Nat} {sv : Nat → Sg} {σ : Sg} (hM : Mm M n sv) (hS : Sm M 0 σ) (hn : n < 6) : Ct l G yX6_saves wsX6_saves 2 ([.ref (G.2.2 84)] : List Value) M (fun v9 M9 => v9 = none ∧ Mm M9 (svN n) (svS n sv σ) ∧ Fr M M9 jsS k1) := by
  refine Ct.of (cc := cX6_saves) (maxL := 2) (ret := none) (lv := [(0, .ref (G.2.2 84))]) (by decide) rfl rfl (Nat.le_of_ble_eq_true rfl) ?_
  intro pg ev sg mm bl mt cd AZ C hret
  refine j_aload_n C dX6_saves_0 rfl ?_
  refine j_getf C dX6_saves_1 rfl (by decide) (T := TX6) rfl in_X6_saves_X6 (k := 1) (by decide) fl_X6_saves_35 rfl rfl ?_
  refine j_top C (_) hM.2.1 ?_
  refine j_bipush C dX6_saves_4 (v := nI 6) (by decide) ?_
  refine j_icmp_neN C dX6_saves_6 (tgt := 41) (by decide) (by omega) (by decide) (fun _ => ?_) (fun q => absurd q (by omega))
  refine j_aload_n C dX6_saves_41 rfl ?_
  refine j_dup C dX6_saves_42 rfl ?_
  refine j_getf C dX6_saves_43 rfl (by decide) (T := TX6) rfl in_X6_saves_X6 (k := 1) (by decide) fl_X6_saves_35 rfl rfl ?_
  refine j_top C (_) hM.2.1 ?_
  refine j_iconst C dX6_saves_46 (v := nI 1) (by decide) ?_
  refine j_iaddN C dX6_saves_47 ?_
  refine j_putf C dX6_saves_48 rfl (by decide) (T := TX6) rfl in_X6_saves_X6 tyX6 tyX6_ok nmX6 (k := 1) (by decide) fl_X6_saves_35 rfl rfl (by decide +kernel) (Nat.le_of_ble_eq_true rfl) rfl ?_
  refine j_aload_n C dX6_saves_51 rfl ?_
  refine j_iconst C dX6_saves_52 (v := nI 0) (by decide) ?_
  refine j_aload_n C dX6_saves_53 rfl ?_
  refine j_getf C dX6_saves_54 rfl (by decide) (T := TX6) rfl in_X6_saves_X6 (k := 1) (by decide) fl_X6_saves_35 rfl rfl ?_
  refine j_top C (_) setV_eq ?_
  refine j_callV C (cm_copies (fr := 0) (to := n + 1) (by decide) (by omega) (by omega)) dX6_saves_57 rfl (by decide) (T := TX6) rfl gX6_saves_X6_copies rfl kd_X6_copies rfl rfl (Nat.le_of_ble_eq_true rfl) ⟨by decide, by decide⟩ ⟨Nat.zero_le _, Nat.zero_le _⟩ (k_VQ fun M3 hq => ?_)
  obtain ⟨hq1, hq2⟩ := hq
  exact j_return C hret dX6_saves_60 ⟨rfl, by unfold svN svS; rw [if_neg (by omega), if_neg (by omega)]; exact Mm_put hM hS hn hq1 hq2, (Fr.V (js := jsS) (show k1 1 from rfl)).tr (hq2.mono (fun a ha => by unfold jsS; omega) (fun a h => h.elim))⟩

set_option maxHeartbeats 4000000 in
set_option maxRecDepth 100000 in
theorem cm_saves_b {l : Launch} {G : GG} {M : MM} {sv : Nat → Sg} {σ : Sg} (hM : Mm M 6 sv) (hS : Sm M 0 σ) : Ct l G yX6_saves wsX6_saves 2 ([.ref (G.2.2 84)] : List Value) M (fun v9 M9 => v9 = none ∧ Mm M9 6 (fun k => if k = 5 then σ else sv (k + 1)) ∧ Fr M M9 jsS k1) := by
  refine Ct.of (cc := cX6_saves) (maxL := 2) (ret := none) (lv := [(0, .ref (G.2.2 84))]) (by decide) rfl rfl (Nat.le_of_ble_eq_true rfl) ?_
  intro pg ev sg mm bl mt cd AZ C hret
  refine j_aload_n C dX6_saves_0 rfl ?_
  refine j_getf C dX6_saves_1 rfl (by decide) (T := TX6) rfl in_X6_saves_X6 (k := 1) (by decide) fl_X6_saves_35 rfl rfl ?_
  refine j_top C (_) hM.2.1 ?_
  refine j_bipush C dX6_saves_4 (v := nI 6) (by decide) ?_
  refine j_icmp_neN C dX6_saves_6 (tgt := 41) (by decide) (by decide) (by decide) (fun q => absurd rfl q) (fun _ => ?_)
  refine j_iconst C dX6_saves_9 (v := nI 1) (by decide) ?_
  refine j_istore_n C dX6_saves_10 (by decide) ?_
  have L11 : ∀ n, n ≤ 6 → 0 < n → ∀ M2 : MM, Sh M M2 sv n → J G pg l ev (rmD 2) sg mm ([.ref (G.2.2 84)] : List Value).toArray bl mt cd AZ 2 (MQ bl (QQ G (fun v9 M9 => v9 = none ∧ Mm M9 6 (fun k => if k = 5 then σ else sv (k + 1)) ∧ Fr M M9 jsS k1) AZ) ([.ref (G.2.2 84)] : List Value).toArray sg 0 0 AZ) 0 0 11 [(0, .ref (G.2.2 84)), (1, .int (nI n))] [] (M2) := by
    refine dnto ?_
    intro n hn11 ih11 hn0 M2 hF
    refine j_iload_n C dX6_saves_11 rfl ?_
    refine j_bipush C dX6_saves_12 (v := nI 6) (by decide) ?_
    refine j_icmp_geN C dX6_saves_14 (tgt := 31) (by decide) (by omega) (by omega) (fun cq14 => ?_) (fun cq14 => ?_)
    · have e6 : n = 6 := by omega
      subst e6
      have hS2 : Sm M2 0 σ := hS.fr hF.2 (fun k hk h => by unfold jsS at h; omega)
      refine j_aload_n C dX6_saves_31 rfl ?_
      refine j_dup C dX6_saves_32 rfl ?_
      refine j_getf C dX6_saves_33 rfl (by decide) (T := TX6) rfl in_X6_saves_X6 (k := 1) (by decide) fl_X6_saves_35 rfl rfl ?_
      refine j_top C (_) ((hF.2.2.2 1 (fun h => h)).trans hM.2.1) ?_
      refine j_iconst C dX6_saves_36 (v := nI 1) (by decide) ?_
      refine j_isubN C dX6_saves_37 (by omega) ?_
      refine j_putf C dX6_saves_38 rfl (by decide) (T := TX6) rfl in_X6_saves_X6 tyX6 tyX6_ok nmX6 (k := 1) (by decide) fl_X6_saves_35 rfl rfl (by decide +kernel) (Nat.le_of_ble_eq_true rfl) rfl ?_
      refine j_aload_n C dX6_saves_41 rfl ?_
      refine j_dup C dX6_saves_42 rfl ?_
      refine j_getf C dX6_saves_43 rfl (by decide) (T := TX6) rfl in_X6_saves_X6 (k := 1) (by decide) fl_X6_saves_35 rfl rfl ?_
      refine j_top C (_) setV_eq ?_
      refine j_iconst C dX6_saves_46 (v := nI 1) (by decide) ?_
      refine j_iaddN C dX6_saves_47 ?_
      refine j_putf C dX6_saves_48 rfl (by decide) (T := TX6) rfl in_X6_saves_X6 tyX6 tyX6_ok nmX6 (k := 1) (by decide) fl_X6_saves_35 rfl rfl (by decide +kernel) (Nat.le_of_ble_eq_true rfl) rfl ?_
      refine j_aload_n C dX6_saves_51 rfl ?_
      refine j_iconst C dX6_saves_52 (v := nI 0) (by decide) ?_
      refine j_aload_n C dX6_saves_53 rfl ?_
      refine j_getf C dX6_saves_54 rfl (by decide) (T := TX6) rfl in_X6_saves_X6 (k := 1) (by decide) fl_X6_saves_35 rfl rfl ?_
      refine j_top C (_) setV_eq ?_
      refine j_callV C (cm_copies (fr := 0) (to := 6) (by decide) (by decide) (by decide)) dX6_saves_57 rfl (by decide) (T := TX6) rfl gX6_saves_X6_copies rfl kd_X6_copies rfl rfl (Nat.le_of_ble_eq_true rfl) ⟨by decide, by decide⟩ ⟨Nat.zero_le _, Nat.zero_le _⟩ (k_VQ fun M3 hq => ?_)
      obtain ⟨hq1, hq2⟩ := hq
      exact j_return C hret dX6_saves_60 ⟨rfl, Mm_put6 hF hS2 hq1 hq2, (((hF.2.mono (ks2 := k1) (fun a h => h) (fun a h => h.elim)).tr (Fr.V rfl)).tr (Fr.V rfl)).tr (hq2.mono (fun a ha => by unfold jsS; omega) (fun a h => h.elim))⟩
    · refine j_aload_n C dX6_saves_17 rfl ?_
      refine j_iload_n C dX6_saves_18 rfl ?_
      refine j_iconst C dX6_saves_19 (v := nI 1) (by decide) ?_
      refine j_iaddN C dX6_saves_20 ?_
      refine j_iload_n C dX6_saves_21 rfl ?_
      refine j_callV C (cm_copies (fr := n + 1) (to := n) (by omega) (by omega) (by omega)) dX6_saves_22 rfl (by decide) (T := TX6) rfl gX6_saves_X6_copies rfl kd_X6_copies rfl rfl (Nat.le_of_ble_eq_true rfl) ⟨by decide, by decide⟩ ⟨Nat.zero_le _, Nat.zero_le _⟩ (k_VQ fun M3 hq => ?_)
      obtain ⟨hq1, hq2⟩ := hq
      refine j_iincN C dX6_saves_25 rfl (by decide) ?_
      refine j_goto C dX6_saves_28 (tgt := 11) (by decide) ?_
      exact ih11 (by omega) (by omega) _ (Sh_s hn0 cq14 hF hq1 hq2)
  exact L11 1 (by decide) (by decide) M ⟨fun k hk => by rw [if_neg (by omega)]; exact hM.2.2 k hk, Fr.rf⟩

theorem cm_saves {l : Launch} {G : GG} {M : MM} {n : Nat} {sv : Nat → Sg} {σ : Sg} (hM : Mm M n sv) (hS : Sm M 0 σ) : Ct l G yX6_saves wsX6_saves 2 [.ref (G.2.2 84)] M (fun v9 M9 => v9 = none ∧ Mm M9 (svN n) (svS n sv σ) ∧ Fr M M9 jsS k1) := by
  rcases Nat.lt_or_ge n 6 with h | h
  · exact cm_saves_a hM hS h
  · have e : n = 6 := Nat.le_antisymm hM.1 h
    subst e
    exact cm_saves_b hM hS

set_option maxHeartbeats 4000000 in
set_option maxRecDepth 100000 in
theorem cm_sets {l : Launch} {G : GG} {M : MM} {n : Nat} {sv : Nat → Sg} {σ : Sg} (hM : Mm M n sv) (hS : Sm M 0 σ) {k : Nat} {v : Int32} (hk : k < 59) : Ct l G yX6_sets wsX6_sets 3 ([.ref (G.2.2 84), .int (nI k), .int (v)] : List Value) M (fun v9 M9 => v9 = some (.int (M.1 85 k)) ∧ ∃ M3, Mm M3 (svN n) (svS n sv σ) ∧ Fr M M3 jsS k1 ∧ M9 = setR M3 85 k v) := by
  refine Ct.of (cc := cX6_sets) (maxL := 4) (ret := (some .int)) (lv := [(0, .ref (G.2.2 84)), (1, .int (nI k)), (2, .int (v))]) (by decide) rfl rfl (Nat.le_of_ble_eq_true rfl) ?_
  intro pg ev sg mm bl mt cd AZ C hret
  refine j_aload_n C dX6_sets_0 rfl ?_
  refine j_callV C (cm_saves hM hS) dX6_sets_1 rfl (by decide) (T := TX6) rfl gX6_sets_X6_saves rfl kd_X6_saves rfl rfl (Nat.le_of_ble_eq_true rfl) ⟨by decide, by decide⟩ ⟨Nat.zero_le _, Nat.zero_le _⟩ (k_VQ fun M3 hq => ?_)
  obtain ⟨hm, ho⟩ := hq
  refine j_aload_n C dX6_sets_4 rfl ?_
  refine j_getf C dX6_sets_5 rfl (by decide) (T := TX6) rfl in_X6_sets_X6 (k := 0) (by decide) fl_X6_sets_7 rfl rfl ?_
  refine j_iload_n C dX6_sets_8 rfl ?_
  refine j_ialdN C dX6_sets_9 (show ilen 85 = some 531 from rfl) (by omega) (by decide) ?_
  refine j_top C (M.1 85 k) (ho.2.1 _ (by unfold jsS; omega)) ?_
  refine j_istore_n C dX6_sets_10 (by decide) ?_
  refine j_aload_n C dX6_sets_11 rfl ?_
  refine j_getf C dX6_sets_12 rfl (by decide) (T := TX6) rfl in_X6_sets_X6 (k := 0) (by decide) fl_X6_sets_7 rfl rfl ?_
  refine j_iload_n C dX6_sets_15 rfl ?_
  refine j_iload_n C dX6_sets_16 rfl ?_
  refine j_iastN C dX6_sets_17 (show ilen 85 = some 531 from rfl) (by omega) (by decide) ?_
  refine j_iload_n C dX6_sets_18 rfl ?_
  exact j_ireturn C hret dX6_sets_19 ⟨rfl, M3, hm, ho, rfl⟩
