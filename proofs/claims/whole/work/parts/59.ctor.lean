/-! the constructors -/
def fZ : Nat → Int32 := fun _ => nI 0
def mI : Nat → Int32 := fun _ => -1
def t3 : Nat → Int32 := fun _ => nI 3
def fI (g : Nat → Int32) (i : Nat) : Nat → Int32 := fun k => if k < i then g k else nI 0
theorem fI_0 {g : Nat → Int32} : fI g 0 = fZ := funext fun k => if_neg (Nat.not_lt_zero k)
theorem fI_s {g : Nat → Int32} {i : Nat} : upd (fI g i) i (g i) = fI g (i + 1) := funext fun k => by
  by_cases e : k = i
  · subst e; rw [upd_eq]; exact (if_pos (Nat.lt_succ_self k)).symm
  · rw [upd_ne e]
    by_cases h : k < i
    · exact (if_pos h).trans (if_pos (Nat.lt_succ_of_lt h)).symm
    · exact (if_neg h).trans (if_neg (by omega)).symm
theorem fI_m (i : Nat) : upd (fI mI i) i (-1) = fI mI (i + 1) := fI_s
theorem fI_k (i : Nat) : upd (fI nI i) i (nI i) = fI nI (i + 1) := fI_s
theorem fI_3 (i : Nat) : upd (fI t3 i) i (nI 3) = fI t3 (i + 1) := fI_s
def mS1 (i : Nat) : Nat → Int32 := fun k => if k < 32 ∧ k % 4 = 3 ∧ k / 4 < i then -1 else nI 0
def mS2 (i : Nat) : Nat → Int32 := fun k => if 32 ≤ k ∧ k < 32 + 3 * i then (if k % 3 = 2 then nI ((k - 32) / 3) else if k % 3 = 0 then nI 3 else -1) else mS1 8 k
theorem mS1_0 : mS1 0 = fZ := funext fun k => if_neg (fun h => Nat.not_lt_zero _ h.2.2)
theorem mS2_0 : mS2 0 = mS1 8 := funext fun k => if_neg (by omega)
theorem mS1_s {i : Nat} (hi : i < 8) : upd (mS1 i) (4 * i + 3) (-1) = mS1 (i + 1) := funext fun k => by
  by_cases e : k = 4 * i + 3
  · subst e; rw [upd_eq]; exact (if_pos (by omega)).symm
  · rw [upd_ne e]
    unfold mS1
    by_cases h : k < 32 ∧ k % 4 = 3 ∧ k / 4 < i
    · rw [if_pos h, if_pos (by omega)]
    · rw [if_neg h, if_neg (by omega)]
theorem mS2_s {i : Nat} : upd (upd (upd (mS2 i) (32 + 3 * i) (nI i)) (32 + 3 * i + 1) (nI 3)) (32 + 3 * i + 2) (-1) = mS2 (i + 1) := funext fun k => by
  by_cases e2 : k = 32 + 3 * i + 2
  · rw [e2, upd_eq]; unfold mS2; rw [if_pos (by omega), if_neg (by omega), if_neg (by omega)]
  · rw [upd_ne e2]
    by_cases e1 : k = 32 + 3 * i + 1
    · rw [e1, upd_eq]; unfold mS2; rw [if_pos (by omega), if_neg (by omega), if_pos (by omega)]
    · rw [upd_ne e1]
      by_cases e0 : k = 32 + 3 * i
      · rw [e0, upd_eq]; unfold mS2; rw [if_pos (by omega), if_pos (by omega), show (32 + 3 * i - 32) / 3 = i by omega]
      · rw [upd_ne e0]
        unfold mS2
        by_cases h : 32 ≤ k ∧ k < 32 + 3 * i
        · exact (if_pos h).trans (if_pos (show 32 ≤ k ∧ k < 32 + 3 * (i + 1) by omega)).symm
        · exact (if_neg h).trans (if_neg (show ¬ (32 ≤ k ∧ k < 32 + 3 * (i + 1)) by omega)).symm
abbrev refs (f : Nat → Option Nat) : (Nat → Int32) ⊕ ((Nat → Int64) ⊕ ((Nat → UInt32) ⊕ ((Nat → UInt64) ⊕ (Nat → Option Nat)))) := .inr (.inr (.inr (.inr f)))
def bur (G : GG) (f : Nat → Nat) : va_W := [(f 0, .inr (0, [.ref (f 1), .ref (f 2), .ref (f 3), .ref (f 4), .ref (f 5), .ref (f 6), .ref (f 7), .int (nI 0), .int (nI 0), .int (nI 0)])), (f 1, .inl (G.2.1 0, 8, .inl fZ)), (f 2, .inl (G.2.1 0, 8, .inl (fI mI 8))), (f 3, .inl (G.2.1 0, 4, .inl (fI nI 4))), (f 4, .inl (G.2.1 0, 4, .inl (fI t3 4))), (f 5, .inl (G.2.1 0, 4, .inl (fI mI 4))), (f 6, .inl (G.2.1 0, 6, .inl fZ)), (f 7, .inl (G.2.1 0, 6, .inl fZ))]
def bo0 : List Value := [.null, .null, .null, .null, .null, .null, .null, .int (nI 0), .int (nI 0), .int (nI 0)]
def mo0 : List Value := [.null, .int (nI 0), .null, .null, .int (nI 0), .int (nI 0), .null, .null, .int (nI 0), .int (nI 0), .int (nI 0), .int (nI 0)]
def upN (n : Nat) (q : Nat → Nat) : Nat → Option Nat := match n with
  | 0 => fun _ => none
  | k + 1 => va_up (upN k q) k (some (q k))

set_option maxHeartbeats 4000000 in
set_option maxRecDepth 100000 in
theorem ck_Bureau {l : Launch} {G : GG} {q : Nat} : Cz l G yX0_init wsX0_init { frames := 2, cells := 7, slots := 40, locals := 40 } 7 40 [.ref q] [(q, .inr (0, bo0))] (fun v w => v = none ∧ ∃ f : Nat → Nat, f 0 = q ∧ w = bur G f) := by
  refine Cz.of (cc := cX0_init) (maxL := 2) (ret := none) (lv := [(0, .ref q)]) (by decide) rfl rfl (Nat.le_of_ble_eq_true rfl) ?_
  intro pg ev sg mm bl mt cd AZ C hname hret
  refine jc_aload_n C dX0_init_0 rfl ?_
  refine jc_objInit C dX0_init_1 (by decide +kernel) (by decide +kernel) (by decide +kernel) (by decide) (Nat.le_of_ble_eq_true rfl) ?_
  refine jc_to (X2 := [(q, .inr (0, [.null, .null, .null, .null, .null, .null, .null, .int (nI 0), .int (nI 0), .int (nI 0)]))]) (P2 := []) rfl ?_
  refine jc_aload_n C dX0_init_4 rfl ?_
  refine jc_bipush C dX0_init_5 (v := nI 8) (by decide) ?_
  refine jc_newa C (a0 := (8, .inl fZ)) dX0_init_7 rfl (by decide +kernel) (t := 0) rfl (fun _ => rfl) (by decide) (by decide) ⟨Nat.le_of_ble_eq_true rfl, Nat.le_of_ble_eq_true rfl⟩ (fun q1 => ?_)
  refine jc_to (X2 := [(q, .inr (0, [.null, .null, .null, .null, .null, .null, .null, .int (nI 0), .int (nI 0), .int (nI 0)])), (q1, .inl (G.2.1 0, 8, .inl fZ))]) (P2 := []) rfl ?_
  refine jc_putF C hname (i := 0) dX0_init_9 rfl rfl (by decide +kernel) tyX0 tyX0_ok nmX0 (k := 0) (by decide) (by decide +kernel) rfl rfl (ty := tyX0 0) (by decide +kernel) rfl rfl (Nat.le_of_ble_eq_true rfl) ?_
  refine jc_to (X2 := [(q, .inr (0, [.ref q1, .null, .null, .null, .null, .null, .null, .int (nI 0), .int (nI 0), .int (nI 0)])), (q1, .inl (G.2.1 0, 8, .inl fZ))]) (P2 := []) rfl ?_
  refine jc_aload_n C dX0_init_12 rfl ?_
  refine jc_bipush C dX0_init_13 (v := nI 8) (by decide) ?_
  refine jc_newa C (a0 := (8, .inl fZ)) dX0_init_15 rfl (by decide +kernel) (t := 0) rfl (fun _ => rfl) (by decide) (by decide) ⟨Nat.le_of_ble_eq_true rfl, Nat.le_of_ble_eq_true rfl⟩ (fun q2 => ?_)
  refine jc_to (X2 := [(q, .inr (0, [.ref q1, .null, .null, .null, .null, .null, .null, .int (nI 0), .int (nI 0), .int (nI 0)])), (q1, .inl (G.2.1 0, 8, .inl fZ)), (q2, .inl (G.2.1 0, 8, .inl fZ))]) (P2 := []) rfl ?_
  refine jc_putF C hname (i := 0) dX0_init_17 rfl rfl (by decide +kernel) tyX0 tyX0_ok nmX0 (k := 1) (by decide) (by decide +kernel) rfl rfl (ty := tyX0 1) (by decide +kernel) rfl rfl (Nat.le_of_ble_eq_true rfl) ?_
  refine jc_to (X2 := [(q, .inr (0, [.ref q1, .ref q2, .null, .null, .null, .null, .null, .int (nI 0), .int (nI 0), .int (nI 0)])), (q1, .inl (G.2.1 0, 8, .inl fZ)), (q2, .inl (G.2.1 0, 8, .inl fZ))]) (P2 := []) rfl ?_
  refine jc_aload_n C dX0_init_20 rfl ?_
  refine jc_iconst C dX0_init_21 (v := nI 4) (by decide) ?_
  refine jc_newa C (a0 := (4, .inl fZ)) dX0_init_22 rfl (by decide +kernel) (t := 0) rfl (fun _ => rfl) (by decide) (by decide) ⟨Nat.le_of_ble_eq_true rfl, Nat.le_of_ble_eq_true rfl⟩ (fun q3 => ?_)
  refine jc_to (X2 := [(q, .inr (0, [.ref q1, .ref q2, .null, .null, .null, .null, .null, .int (nI 0), .int (nI 0), .int (nI 0)])), (q1, .inl (G.2.1 0, 8, .inl fZ)), (q2, .inl (G.2.1 0, 8, .inl fZ)), (q3, .inl (G.2.1 0, 4, .inl fZ))]) (P2 := []) rfl ?_
  refine jc_putF C hname (i := 0) dX0_init_24 rfl rfl (by decide +kernel) tyX0 tyX0_ok nmX0 (k := 2) (by decide) (by decide +kernel) rfl rfl (ty := tyX0 2) (by decide +kernel) rfl rfl (Nat.le_of_ble_eq_true rfl) ?_
  refine jc_to (X2 := [(q, .inr (0, [.ref q1, .ref q2, .ref q3, .null, .null, .null, .null, .int (nI 0), .int (nI 0), .int (nI 0)])), (q1, .inl (G.2.1 0, 8, .inl fZ)), (q2, .inl (G.2.1 0, 8, .inl fZ)), (q3, .inl (G.2.1 0, 4, .inl fZ))]) (P2 := []) rfl ?_
  refine jc_aload_n C dX0_init_27 rfl ?_
  refine jc_iconst C dX0_init_28 (v := nI 4) (by decide) ?_
  refine jc_newa C (a0 := (4, .inl fZ)) dX0_init_29 rfl (by decide +kernel) (t := 0) rfl (fun _ => rfl) (by decide) (by decide) ⟨Nat.le_of_ble_eq_true rfl, Nat.le_of_ble_eq_true rfl⟩ (fun q4 => ?_)
  refine jc_to (X2 := [(q, .inr (0, [.ref q1, .ref q2, .ref q3, .null, .null, .null, .null, .int (nI 0), .int (nI 0), .int (nI 0)])), (q1, .inl (G.2.1 0, 8, .inl fZ)), (q2, .inl (G.2.1 0, 8, .inl fZ)), (q3, .inl (G.2.1 0, 4, .inl fZ)), (q4, .inl (G.2.1 0, 4, .inl fZ))]) (P2 := []) rfl ?_
  refine jc_putF C hname (i := 0) dX0_init_31 rfl rfl (by decide +kernel) tyX0 tyX0_ok nmX0 (k := 3) (by decide) (by decide +kernel) rfl rfl (ty := tyX0 3) (by decide +kernel) rfl rfl (Nat.le_of_ble_eq_true rfl) ?_
  refine jc_to (X2 := [(q, .inr (0, [.ref q1, .ref q2, .ref q3, .ref q4, .null, .null, .null, .int (nI 0), .int (nI 0), .int (nI 0)])), (q1, .inl (G.2.1 0, 8, .inl fZ)), (q2, .inl (G.2.1 0, 8, .inl fZ)), (q3, .inl (G.2.1 0, 4, .inl fZ)), (q4, .inl (G.2.1 0, 4, .inl fZ))]) (P2 := []) rfl ?_
  refine jc_aload_n C dX0_init_34 rfl ?_
  refine jc_iconst C dX0_init_35 (v := nI 4) (by decide) ?_
  refine jc_newa C (a0 := (4, .inl fZ)) dX0_init_36 rfl (by decide +kernel) (t := 0) rfl (fun _ => rfl) (by decide) (by decide) ⟨Nat.le_of_ble_eq_true rfl, Nat.le_of_ble_eq_true rfl⟩ (fun q5 => ?_)
  refine jc_to (X2 := [(q, .inr (0, [.ref q1, .ref q2, .ref q3, .ref q4, .null, .null, .null, .int (nI 0), .int (nI 0), .int (nI 0)])), (q1, .inl (G.2.1 0, 8, .inl fZ)), (q2, .inl (G.2.1 0, 8, .inl fZ)), (q3, .inl (G.2.1 0, 4, .inl fZ)), (q4, .inl (G.2.1 0, 4, .inl fZ)), (q5, .inl (G.2.1 0, 4, .inl fZ))]) (P2 := []) rfl ?_
  refine jc_putF C hname (i := 0) dX0_init_38 rfl rfl (by decide +kernel) tyX0 tyX0_ok nmX0 (k := 4) (by decide) (by decide +kernel) rfl rfl (ty := tyX0 4) (by decide +kernel) rfl rfl (Nat.le_of_ble_eq_true rfl) ?_
  refine jc_to (X2 := [(q, .inr (0, [.ref q1, .ref q2, .ref q3, .ref q4, .ref q5, .null, .null, .int (nI 0), .int (nI 0), .int (nI 0)])), (q1, .inl (G.2.1 0, 8, .inl fZ)), (q2, .inl (G.2.1 0, 8, .inl fZ)), (q3, .inl (G.2.1 0, 4, .inl fZ)), (q4, .inl (G.2.1 0, 4, .inl fZ)), (q5, .inl (G.2.1 0, 4, .inl fZ))]) (P2 := []) rfl ?_
  refine jc_aload_n C dX0_init_41 rfl ?_
  refine jc_bipush C dX0_init_42 (v := nI 6) (by decide) ?_
  refine jc_newa C (a0 := (6, .inl fZ)) dX0_init_44 rfl (by decide +kernel) (t := 0) rfl (fun _ => rfl) (by decide) (by decide) ⟨Nat.le_of_ble_eq_true rfl, Nat.le_of_ble_eq_true rfl⟩ (fun q6 => ?_)
  refine jc_to (X2 := [(q, .inr (0, [.ref q1, .ref q2, .ref q3, .ref q4, .ref q5, .null, .null, .int (nI 0), .int (nI 0), .int (nI 0)])), (q1, .inl (G.2.1 0, 8, .inl fZ)), (q2, .inl (G.2.1 0, 8, .inl fZ)), (q3, .inl (G.2.1 0, 4, .inl fZ)), (q4, .inl (G.2.1 0, 4, .inl fZ)), (q5, .inl (G.2.1 0, 4, .inl fZ)), (q6, .inl (G.2.1 0, 6, .inl fZ))]) (P2 := []) rfl ?_
  refine jc_putF C hname (i := 0) dX0_init_46 rfl rfl (by decide +kernel) tyX0 tyX0_ok nmX0 (k := 5) (by decide) (by decide +kernel) rfl rfl (ty := tyX0 5) (by decide +kernel) rfl rfl (Nat.le_of_ble_eq_true rfl) ?_
  refine jc_to (X2 := [(q, .inr (0, [.ref q1, .ref q2, .ref q3, .ref q4, .ref q5, .ref q6, .null, .int (nI 0), .int (nI 0), .int (nI 0)])), (q1, .inl (G.2.1 0, 8, .inl fZ)), (q2, .inl (G.2.1 0, 8, .inl fZ)), (q3, .inl (G.2.1 0, 4, .inl fZ)), (q4, .inl (G.2.1 0, 4, .inl fZ)), (q5, .inl (G.2.1 0, 4, .inl fZ)), (q6, .inl (G.2.1 0, 6, .inl fZ))]) (P2 := []) rfl ?_
  refine jc_aload_n C dX0_init_49 rfl ?_
  refine jc_bipush C dX0_init_50 (v := nI 6) (by decide) ?_
  refine jc_newa C (a0 := (6, .inl fZ)) dX0_init_52 rfl (by decide +kernel) (t := 0) rfl (fun _ => rfl) (by decide) (by decide) ⟨Nat.le_of_ble_eq_true rfl, Nat.le_of_ble_eq_true rfl⟩ (fun q7 => ?_)
  refine jc_to (X2 := [(q, .inr (0, [.ref q1, .ref q2, .ref q3, .ref q4, .ref q5, .ref q6, .null, .int (nI 0), .int (nI 0), .int (nI 0)])), (q1, .inl (G.2.1 0, 8, .inl fZ)), (q2, .inl (G.2.1 0, 8, .inl fZ)), (q3, .inl (G.2.1 0, 4, .inl fZ)), (q4, .inl (G.2.1 0, 4, .inl fZ)), (q5, .inl (G.2.1 0, 4, .inl fZ)), (q6, .inl (G.2.1 0, 6, .inl fZ)), (q7, .inl (G.2.1 0, 6, .inl fZ))]) (P2 := []) rfl ?_
  refine jc_putF C hname (i := 0) dX0_init_54 rfl rfl (by decide +kernel) tyX0 tyX0_ok nmX0 (k := 6) (by decide) (by decide +kernel) rfl rfl (ty := tyX0 6) (by decide +kernel) rfl rfl (Nat.le_of_ble_eq_true rfl) ?_
  refine jc_to (X2 := [(q, .inr (0, [.ref q1, .ref q2, .ref q3, .ref q4, .ref q5, .ref q6, .ref q7, .int (nI 0), .int (nI 0), .int (nI 0)])), (q1, .inl (G.2.1 0, 8, .inl fZ)), (q2, .inl (G.2.1 0, 8, .inl fZ)), (q3, .inl (G.2.1 0, 4, .inl fZ)), (q4, .inl (G.2.1 0, 4, .inl fZ)), (q5, .inl (G.2.1 0, 4, .inl fZ)), (q6, .inl (G.2.1 0, 6, .inl fZ)), (q7, .inl (G.2.1 0, 6, .inl fZ))]) (P2 := []) rfl ?_
  refine jc_iconst C dX0_init_57 (v := nI 0) (by decide) ?_
  refine jc_istore_n C dX0_init_58 (by decide) ?_
  have L2 : ∀ i, i ≤ 4 → JC G pg l ev { frames := 2, cells := 7, slots := 40, locals := 40 } sg mm #[.ref q] bl mt cd AZ 2 (MQ bl (QC G (fun v w => v = none ∧ ∃ f : Nat → Nat, f 0 = q ∧ w = bur G f) AZ) #[.ref q] sg 7 40 AZ) 7 40 80 [(0, .ref q), (1, .int (nI i))] [] [(q, .inr (0, [.ref q1, .ref q2, .ref q3, .ref q4, .ref q5, .ref q6, .ref q7, .int (nI 0), .int (nI 0), .int (nI 0)])), (q1, .inl (G.2.1 0, 8, .inl fZ)), (q2, .inl (G.2.1 0, 8, .inl (fI mI (8)))), (q3, .inl (G.2.1 0, 4, .inl (fI nI (i)))), (q4, .inl (G.2.1 0, 4, .inl (fI t3 (i)))), (q5, .inl (G.2.1 0, 4, .inl (fI mI (i)))), (q6, .inl (G.2.1 0, 6, .inl fZ)), (q7, .inl (G.2.1 0, 6, .inl fZ))] [] := by
    refine dnto ?_
    intro i hi ih
    refine jc_iload_n C dX0_init_80 rfl ?_
    refine jc_iconst C dX0_init_81 (v := nI 4) (by decide) ?_
    refine jc_icmp_geN C dX0_init_82 (tgt := 112) (by decide) (by omega) (by decide) (fun hge => ?_) (fun hlt => ?_)
    · obtain rfl : i = 4 := by omega
      exact jc_return C hret dX0_init_112 ⟨rfl, fun j => match j with | 0 => q | 1 => q1 | 2 => q2 | 3 => q3 | 4 => q4 | 5 => q5 | 6 => q6 | _ => q7, rfl, rfl⟩
    · refine jc_aload_n C dX0_init_85 rfl ?_
      refine jc_getf C (i := 0) (T := TX0) dX0_init_86 rfl rfl (by decide +kernel) (k := 2) (by decide) (by decide +kernel) rfl rfl ?_
      refine jc_iload_n C dX0_init_89 rfl ?_
      refine jc_iload_n C dX0_init_90 rfl ?_
      refine jc_iastN C (i := 3) dX0_init_91 rfl hlt (by decide) ?_
      refine jc_aload_n C dX0_init_92 rfl ?_
      refine jc_getf C (i := 0) (T := TX0) dX0_init_93 rfl rfl (by decide +kernel) (k := 3) (by decide) (by decide +kernel) rfl rfl ?_
      refine jc_iload_n C dX0_init_96 rfl ?_
      refine jc_iconst C dX0_init_97 (v := nI 3) (by decide) ?_
      refine jc_iastN C (i := 4) dX0_init_98 rfl hlt (by decide) ?_
      refine jc_aload_n C dX0_init_99 rfl ?_
      refine jc_getf C (i := 0) (T := TX0) dX0_init_100 rfl rfl (by decide +kernel) (k := 4) (by decide) (by decide +kernel) rfl rfl ?_
      refine jc_iload_n C dX0_init_103 rfl ?_
      refine jc_iconst C dX0_init_104 (v := -1) (by decide) ?_
      refine jc_iastN C (i := 5) dX0_init_105 rfl hlt (by decide) ?_
      refine jc_iincN C dX0_init_106 rfl (by decide) ?_
      refine jc_goto C dX0_init_109 (tgt := 80) (by decide) ?_
      exact jc_to (X2 := [(q, .inr (0, [.ref q1, .ref q2, .ref q3, .ref q4, .ref q5, .ref q6, .ref q7, .int (nI 0), .int (nI 0), .int (nI 0)])), (q1, .inl (G.2.1 0, 8, .inl fZ)), (q2, .inl (G.2.1 0, 8, .inl (fI mI (8)))), (q3, .inl (G.2.1 0, 4, .inl (fI nI (i + 1)))), (q4, .inl (G.2.1 0, 4, .inl (fI t3 (i + 1)))), (q5, .inl (G.2.1 0, 4, .inl (fI mI (i + 1)))), (q6, .inl (G.2.1 0, 6, .inl fZ)), (q7, .inl (G.2.1 0, 6, .inl fZ))]) (P2 := []) (by rw [← fI_k i, ← fI_3 i, ← fI_m i]; rfl) (ih hlt)
  have L1 : ∀ i, i ≤ 8 → JC G pg l ev { frames := 2, cells := 7, slots := 40, locals := 40 } sg mm #[.ref q] bl mt cd AZ 2 (MQ bl (QC G (fun v w => v = none ∧ ∃ f : Nat → Nat, f 0 = q ∧ w = bur G f) AZ) #[.ref q] sg 7 40 AZ) 7 40 59 [(0, .ref q), (1, .int (nI i))] [] [(q, .inr (0, [.ref q1, .ref q2, .ref q3, .ref q4, .ref q5, .ref q6, .ref q7, .int (nI 0), .int (nI 0), .int (nI 0)])), (q1, .inl (G.2.1 0, 8, .inl fZ)), (q2, .inl (G.2.1 0, 8, .inl (fI mI (i)))), (q3, .inl (G.2.1 0, 4, .inl (fI nI (0)))), (q4, .inl (G.2.1 0, 4, .inl (fI t3 (0)))), (q5, .inl (G.2.1 0, 4, .inl (fI mI (0)))), (q6, .inl (G.2.1 0, 6, .inl fZ)), (q7, .inl (G.2.1 0, 6, .inl fZ))] [] := by
    refine dnto ?_
    intro i hi ih
    refine jc_iload_n C dX0_init_59 rfl ?_
    refine jc_bipush C dX0_init_60 (v := nI 8) (by decide) ?_
    refine jc_icmp_geN C dX0_init_62 (tgt := 78) (by decide) (by omega) (by decide) (fun hge => ?_) (fun hlt => ?_)
    · obtain rfl : i = 8 := by omega
      refine jc_iconst C dX0_init_78 (v := nI 0) (by decide) ?_
      refine jc_istore_n C dX0_init_79 (by decide) ?_
      exact L2 0 (by decide)
    · refine jc_aload_n C dX0_init_65 rfl ?_
      refine jc_getf C (i := 0) (T := TX0) dX0_init_66 rfl rfl (by decide +kernel) (k := 1) (by decide) (by decide +kernel) rfl rfl ?_
      refine jc_iload_n C dX0_init_69 rfl ?_
      refine jc_iconst C dX0_init_70 (v := -1) (by decide) ?_
      refine jc_iastN C (i := 2) dX0_init_71 rfl hlt (by decide) ?_
      refine jc_iincN C dX0_init_72 rfl (by decide) ?_
      refine jc_goto C dX0_init_75 (tgt := 59) (by decide) ?_
      exact jc_to (X2 := [(q, .inr (0, [.ref q1, .ref q2, .ref q3, .ref q4, .ref q5, .ref q6, .ref q7, .int (nI 0), .int (nI 0), .int (nI 0)])), (q1, .inl (G.2.1 0, 8, .inl fZ)), (q2, .inl (G.2.1 0, 8, .inl (fI mI (i + 1)))), (q3, .inl (G.2.1 0, 4, .inl (fI nI (0)))), (q4, .inl (G.2.1 0, 4, .inl (fI t3 (0)))), (q5, .inl (G.2.1 0, 4, .inl (fI mI (0)))), (q6, .inl (G.2.1 0, 6, .inl fZ)), (q7, .inl (G.2.1 0, 6, .inl fZ))]) (P2 := []) (by rw [← fI_m i]; rfl) (ih hlt)
  exact jc_to (X2 := [(q, .inr (0, [.ref q1, .ref q2, .ref q3, .ref q4, .ref q5, .ref q6, .ref q7, .int (nI 0), .int (nI 0), .int (nI 0)])), (q1, .inl (G.2.1 0, 8, .inl fZ)), (q2, .inl (G.2.1 0, 8, .inl (fI mI (0)))), (q3, .inl (G.2.1 0, 4, .inl (fI nI (0)))), (q4, .inl (G.2.1 0, 4, .inl (fI t3 (0)))), (q5, .inl (G.2.1 0, 4, .inl (fI mI (0)))), (q6, .inl (G.2.1 0, 6, .inl fZ)), (q7, .inl (G.2.1 0, 6, .inl fZ))]) (P2 := []) (by rw [fI_0, fI_0, fI_0]) (L1 0 (by decide))

set_option maxHeartbeats 4000000 in
set_option maxRecDepth 100000 in
theorem ck_Text {l : Launch} {G : GG} {q : Nat} : Cz l G yX4_init wsX4_init { frames := 2, cells := 1, slots := 60, locals := 40 } 1 60 [.ref q] [(q, .inr (3, [.null, .int (nI 0)]))] (fun v w => v = none ∧ ∃ f : Nat → Nat, f 0 = q ∧ w = [(f 0, .inr (3, [.ref (f 1), .int (nI 0)])), (f 1, .inl (G.2.1 0, 60, .inl fZ))]) := by
  refine Cz.of (cc := cX4_init) (maxL := 1) (ret := none) (lv := [(0, .ref q)]) (by decide) rfl rfl (Nat.le_of_ble_eq_true rfl) ?_
  intro pg ev sg mm bl mt cd AZ C hname hret
  refine jc_aload_n C dX4_init_0 rfl ?_
  refine jc_objInit C dX4_init_1 (by decide +kernel) (by decide +kernel) (by decide +kernel) (by decide) (Nat.le_of_ble_eq_true rfl) ?_
  refine jc_aload_n C dX4_init_4 rfl ?_
  refine jc_bipush C dX4_init_5 (v := nI 60) (by decide) ?_
  refine jc_newa C (a0 := (60, .inl fZ)) dX4_init_7 rfl (by decide +kernel) (t := 0) rfl (fun _ => rfl) (by decide) (by decide) ⟨Nat.le_of_ble_eq_true rfl, Nat.le_of_ble_eq_true rfl⟩ (fun q1 => ?_)
  refine jc_to (X2 := [(q, .inr (3, [.null, .int (nI 0)])), (q1, .inl (G.2.1 0, 60, .inl fZ))]) (P2 := []) rfl ?_
  refine jc_putF C hname (i := 0) dX4_init_9 rfl rfl (by decide +kernel) tyX4 tyX4_ok nmX4 (k := 0) (by decide) (by decide +kernel) rfl rfl (ty := tyX4 0) (by decide +kernel) rfl rfl (Nat.le_of_ble_eq_true rfl) ?_
  refine jc_to (X2 := [(q, .inr (3, [.ref q1, .int (nI 0)])), (q1, .inl (G.2.1 0, 60, .inl fZ))]) (P2 := []) rfl ?_
  exact jc_return C hret dX4_init_12 ⟨rfl, fun j => match j with | 0 => q | _ => q1, rfl, rfl⟩

set_option maxHeartbeats 4000000 in
set_option maxRecDepth 100000 in
theorem ck_Labelling {l : Launch} {G : GG} {q : Nat} : Cz l G yX2_init wsX2_init { frames := 2, cells := 4, slots := 528, locals := 40 } 4 528 [.ref q] [(q, .inr (1, [.null, .null, .null, .null]))] (fun v w => v = none ∧ ∃ f : Nat → Nat, f 0 = q ∧ w = [(f 0, .inr (1, [.ref (f 1), .ref (f 2), .ref (f 3), .ref (f 4)])), (f 1, .inl (G.2.1 0, 8, .inl fZ)), (f 2, .inl (G.2.1 1, 256, .inl fZ)), (f 3, .inl (G.2.1 0, 256, .inl fZ)), (f 4, .inl (G.2.1 0, 8, .inl fZ))]) := by
  refine Cz.of (cc := cX2_init) (maxL := 1) (ret := none) (lv := [(0, .ref q)]) (by decide) rfl rfl (Nat.le_of_ble_eq_true rfl) ?_
  intro pg ev sg mm bl mt cd AZ C hname hret
  refine jc_aload_n C dX2_init_0 rfl ?_
  refine jc_objInit C dX2_init_1 (by decide +kernel) (by decide +kernel) (by decide +kernel) (by decide) (Nat.le_of_ble_eq_true rfl) ?_
  refine jc_aload_n C dX2_init_4 rfl ?_
  refine jc_bipush C dX2_init_5 (v := nI 8) (by decide) ?_
  refine jc_newa C (a0 := (8, .inl fZ)) dX2_init_7 rfl (by decide +kernel) (t := 0) rfl (fun _ => rfl) (by decide) (by decide) ⟨Nat.le_of_ble_eq_true rfl, Nat.le_of_ble_eq_true rfl⟩ (fun q1 => ?_)
  refine jc_to (X2 := [(q, .inr (1, [.null, .null, .null, .null])), (q1, .inl (G.2.1 0, 8, .inl fZ))]) (P2 := []) rfl ?_
  refine jc_putF C hname (i := 0) dX2_init_9 rfl rfl (by decide +kernel) tyX2 tyX2_ok nmX2 (k := 0) (by decide) (by decide +kernel) rfl rfl (ty := tyX2 0) (by decide +kernel) rfl rfl (Nat.le_of_ble_eq_true rfl) ?_
  refine jc_to (X2 := [(q, .inr (1, [.ref q1, .null, .null, .null])), (q1, .inl (G.2.1 0, 8, .inl fZ))]) (P2 := []) rfl ?_
  refine jc_aload_n C dX2_init_12 rfl ?_
  refine jc_sipush C dX2_init_13 (v := nI 256) (by decide) ?_
  refine jc_newa C (a0 := (256, .inl fZ)) dX2_init_16 rfl (by decide +kernel) (t := 1) rfl (fun _ => rfl) (by decide) (by decide) ⟨Nat.le_of_ble_eq_true rfl, Nat.le_of_ble_eq_true rfl⟩ (fun q2 => ?_)
  refine jc_to (X2 := [(q, .inr (1, [.ref q1, .null, .null, .null])), (q1, .inl (G.2.1 0, 8, .inl fZ)), (q2, .inl (G.2.1 1, 256, .inl fZ))]) (P2 := []) rfl ?_
  refine jc_putF C hname (i := 0) dX2_init_18 rfl rfl (by decide +kernel) tyX2 tyX2_ok nmX2 (k := 1) (by decide) (by decide +kernel) rfl rfl (ty := tyX2 1) (by decide +kernel) rfl rfl (Nat.le_of_ble_eq_true rfl) ?_
  refine jc_to (X2 := [(q, .inr (1, [.ref q1, .ref q2, .null, .null])), (q1, .inl (G.2.1 0, 8, .inl fZ)), (q2, .inl (G.2.1 1, 256, .inl fZ))]) (P2 := []) rfl ?_
  refine jc_aload_n C dX2_init_21 rfl ?_
  refine jc_sipush C dX2_init_22 (v := nI 256) (by decide) ?_
  refine jc_newa C (a0 := (256, .inl fZ)) dX2_init_25 rfl (by decide +kernel) (t := 0) rfl (fun _ => rfl) (by decide) (by decide) ⟨Nat.le_of_ble_eq_true rfl, Nat.le_of_ble_eq_true rfl⟩ (fun q3 => ?_)
  refine jc_to (X2 := [(q, .inr (1, [.ref q1, .ref q2, .null, .null])), (q1, .inl (G.2.1 0, 8, .inl fZ)), (q2, .inl (G.2.1 1, 256, .inl fZ)), (q3, .inl (G.2.1 0, 256, .inl fZ))]) (P2 := []) rfl ?_
  refine jc_putF C hname (i := 0) dX2_init_27 rfl rfl (by decide +kernel) tyX2 tyX2_ok nmX2 (k := 2) (by decide) (by decide +kernel) rfl rfl (ty := tyX2 2) (by decide +kernel) rfl rfl (Nat.le_of_ble_eq_true rfl) ?_
  refine jc_to (X2 := [(q, .inr (1, [.ref q1, .ref q2, .ref q3, .null])), (q1, .inl (G.2.1 0, 8, .inl fZ)), (q2, .inl (G.2.1 1, 256, .inl fZ)), (q3, .inl (G.2.1 0, 256, .inl fZ))]) (P2 := []) rfl ?_
  refine jc_aload_n C dX2_init_30 rfl ?_
  refine jc_bipush C dX2_init_31 (v := nI 8) (by decide) ?_
  refine jc_newa C (a0 := (8, .inl fZ)) dX2_init_33 rfl (by decide +kernel) (t := 0) rfl (fun _ => rfl) (by decide) (by decide) ⟨Nat.le_of_ble_eq_true rfl, Nat.le_of_ble_eq_true rfl⟩ (fun q4 => ?_)
  refine jc_to (X2 := [(q, .inr (1, [.ref q1, .ref q2, .ref q3, .null])), (q1, .inl (G.2.1 0, 8, .inl fZ)), (q2, .inl (G.2.1 1, 256, .inl fZ)), (q3, .inl (G.2.1 0, 256, .inl fZ)), (q4, .inl (G.2.1 0, 8, .inl fZ))]) (P2 := []) rfl ?_
  refine jc_putF C hname (i := 0) dX2_init_35 rfl rfl (by decide +kernel) tyX2 tyX2_ok nmX2 (k := 3) (by decide) (by decide +kernel) rfl rfl (ty := tyX2 3) (by decide +kernel) rfl rfl (Nat.le_of_ble_eq_true rfl) ?_
  refine jc_to (X2 := [(q, .inr (1, [.ref q1, .ref q2, .ref q3, .ref q4])), (q1, .inl (G.2.1 0, 8, .inl fZ)), (q2, .inl (G.2.1 1, 256, .inl fZ)), (q3, .inl (G.2.1 0, 256, .inl fZ)), (q4, .inl (G.2.1 0, 8, .inl fZ))]) (P2 := []) rfl ?_
  exact jc_return C hret dX2_init_38 ⟨rfl, fun j => match j with | 0 => q | 1 => q1 | 2 => q2 | 3 => q3 | _ => q4, rfl, rfl⟩

set_option maxHeartbeats 4000000 in
set_option maxRecDepth 100000 in
theorem ck_at {l : Launch} {G : GG} {i : Nat} : Cz l G yX6_at wsX6_at { frames := 1, cells := 0, slots := 0, locals := 20 } 0 0 [.int (nI i)] [] (fun v w => v = some (.int (nI (32 + 3 * i))) ∧ w = []) := by
  refine Cz.of (cc := cX6_at) (maxL := 1) (ret := some .int) (lv := [(0, .int (nI i))]) (by decide) rfl rfl (Nat.le_of_ble_eq_true rfl) ?_
  intro pg ev sg mm bl mt cd AZ C hname hret
  refine jc_bipush C dX6_at_0 (v := nI 32) (by decide) ?_
  refine jc_iconst C dX6_at_2 (v := nI 3) (by decide) ?_
  refine jc_iload_n C dX6_at_3 rfl ?_
  refine jc_imulN C dX6_at_4 ?_
  refine jc_iaddN C dX6_at_5 ?_
  exact jc_ireturn C hret dX6_at_6 ⟨rfl, rfl⟩

def mod9 (G : GG) (d : Nat → Nat) : va_W := [(d 0, .inr (5, [.ref (d 1), .int (nI 0), .ref (d 2), .ref (d 3), .int (nI 0), .int (nI 0), .ref (d 4), .ref (d 5), .int (nI 0), .int (nI 0), .int (nI 0), .int (nI 0)])), (d 1, .inl (G.2.1 0, 531, .inl (mS2 4))), (d 2, .inl (G.2.1 1, 2, .inl fZ)), (d 3, .inl (G.2.1 2, 60, .inl fZ)), (d 4, .inl (G.2.1 0, 256, .inl fZ)), (d 5, .inl (G.2.1 0, 9, .inl fZ))]

set_option maxHeartbeats 4000000 in
set_option maxRecDepth 100000 in
theorem ck_Model {l : Launch} {G : GG} {q : Nat} : Cz l G yX6_init wsX6_init { frames := 4, cells := 5, slots := 858, locals := 100 } 5 858 [.ref q] [(q, .inr (5, mo0))] (fun v w => v = none ∧ ∃ f : Nat → Nat, f 0 = q ∧ w = mod9 G f) := by
  refine Cz.of (cc := cX6_init) (maxL := 2) (ret := none) (lv := [(0, .ref q)]) (by decide) rfl rfl (Nat.le_of_ble_eq_true rfl) ?_
  intro pg ev sg mm bl mt cd AZ C hname hret
  refine jc_aload_n C dX6_init_0 rfl ?_
  refine jc_objInit C dX6_init_1 (by decide +kernel) (by decide +kernel) (by decide +kernel) (by decide) (Nat.le_of_ble_eq_true rfl) ?_
  refine jc_to (X2 := [(q, .inr (5, [.null, .int (nI 0), .null, .null, .int (nI 0), .int (nI 0), .null, .null, .int (nI 0), .int (nI 0), .int (nI 0), .int (nI 0)]))]) (P2 := []) rfl ?_
  refine jc_aload_n C dX6_init_4 rfl ?_
  refine jc_sipush C dX6_init_5 (v := nI 531) (by decide) ?_
  refine jc_newa C (a0 := (531, .inl fZ)) dX6_init_8 rfl (by decide +kernel) (t := 0) rfl (fun _ => rfl) (by decide) (by decide) ⟨Nat.le_of_ble_eq_true rfl, Nat.le_of_ble_eq_true rfl⟩ (fun q1 => ?_)
  refine jc_to (X2 := [(q, .inr (5, [.null, .int (nI 0), .null, .null, .int (nI 0), .int (nI 0), .null, .null, .int (nI 0), .int (nI 0), .int (nI 0), .int (nI 0)])), (q1, .inl (G.2.1 0, 531, .inl fZ))]) (P2 := []) rfl ?_
  refine jc_putF C hname (i := 0) dX6_init_10 rfl rfl (by decide +kernel) tyX6 tyX6_ok nmX6 (k := 0) (by decide) (by decide +kernel) rfl rfl (ty := tyX6 0) (by decide +kernel) rfl rfl (Nat.le_of_ble_eq_true rfl) ?_
  refine jc_to (X2 := [(q, .inr (5, [.ref q1, .int (nI 0), .null, .null, .int (nI 0), .int (nI 0), .null, .null, .int (nI 0), .int (nI 0), .int (nI 0), .int (nI 0)])), (q1, .inl (G.2.1 0, 531, .inl fZ))]) (P2 := []) rfl ?_
  refine jc_aload_n C dX6_init_13 rfl ?_
  refine jc_iconst C dX6_init_14 (v := nI 2) (by decide) ?_
  refine jc_newa C (a0 := (2, .inl fZ)) dX6_init_15 rfl (by decide +kernel) (t := 1) rfl (fun _ => rfl) (by decide) (by decide) ⟨Nat.le_of_ble_eq_true rfl, Nat.le_of_ble_eq_true rfl⟩ (fun q2 => ?_)
  refine jc_to (X2 := [(q, .inr (5, [.ref q1, .int (nI 0), .null, .null, .int (nI 0), .int (nI 0), .null, .null, .int (nI 0), .int (nI 0), .int (nI 0), .int (nI 0)])), (q1, .inl (G.2.1 0, 531, .inl fZ)), (q2, .inl (G.2.1 1, 2, .inl fZ))]) (P2 := []) rfl ?_
  refine jc_putF C hname (i := 0) dX6_init_17 rfl rfl (by decide +kernel) tyX6 tyX6_ok nmX6 (k := 2) (by decide) (by decide +kernel) rfl rfl (ty := tyX6 2) (by decide +kernel) rfl rfl (Nat.le_of_ble_eq_true rfl) ?_
  refine jc_to (X2 := [(q, .inr (5, [.ref q1, .int (nI 0), .ref q2, .null, .int (nI 0), .int (nI 0), .null, .null, .int (nI 0), .int (nI 0), .int (nI 0), .int (nI 0)])), (q1, .inl (G.2.1 0, 531, .inl fZ)), (q2, .inl (G.2.1 1, 2, .inl fZ))]) (P2 := []) rfl ?_
  refine jc_aload_n C dX6_init_20 rfl ?_
  refine jc_bipush C dX6_init_21 (v := nI 60) (by decide) ?_
  refine jc_newa C (a0 := (60, .inl fZ)) dX6_init_23 rfl (by decide +kernel) (t := 2) rfl (fun _ => rfl) (by decide) (by decide) ⟨Nat.le_of_ble_eq_true rfl, Nat.le_of_ble_eq_true rfl⟩ (fun q3 => ?_)
  refine jc_to (X2 := [(q, .inr (5, [.ref q1, .int (nI 0), .ref q2, .null, .int (nI 0), .int (nI 0), .null, .null, .int (nI 0), .int (nI 0), .int (nI 0), .int (nI 0)])), (q1, .inl (G.2.1 0, 531, .inl fZ)), (q2, .inl (G.2.1 1, 2, .inl fZ)), (q3, .inl (G.2.1 2, 60, .inl fZ))]) (P2 := []) rfl ?_
  refine jc_putF C hname (i := 0) dX6_init_25 rfl rfl (by decide +kernel) tyX6 tyX6_ok nmX6 (k := 3) (by decide) (by decide +kernel) rfl rfl (ty := tyX6 3) (by decide +kernel) rfl rfl (Nat.le_of_ble_eq_true rfl) ?_
  refine jc_to (X2 := [(q, .inr (5, [.ref q1, .int (nI 0), .ref q2, .ref q3, .int (nI 0), .int (nI 0), .null, .null, .int (nI 0), .int (nI 0), .int (nI 0), .int (nI 0)])), (q1, .inl (G.2.1 0, 531, .inl fZ)), (q2, .inl (G.2.1 1, 2, .inl fZ)), (q3, .inl (G.2.1 2, 60, .inl fZ))]) (P2 := []) rfl ?_
  refine jc_aload_n C dX6_init_28 rfl ?_
  refine jc_sipush C dX6_init_29 (v := nI 256) (by decide) ?_
  refine jc_newa C (a0 := (256, .inl fZ)) dX6_init_32 rfl (by decide +kernel) (t := 0) rfl (fun _ => rfl) (by decide) (by decide) ⟨Nat.le_of_ble_eq_true rfl, Nat.le_of_ble_eq_true rfl⟩ (fun q4 => ?_)
  refine jc_to (X2 := [(q, .inr (5, [.ref q1, .int (nI 0), .ref q2, .ref q3, .int (nI 0), .int (nI 0), .null, .null, .int (nI 0), .int (nI 0), .int (nI 0), .int (nI 0)])), (q1, .inl (G.2.1 0, 531, .inl fZ)), (q2, .inl (G.2.1 1, 2, .inl fZ)), (q3, .inl (G.2.1 2, 60, .inl fZ)), (q4, .inl (G.2.1 0, 256, .inl fZ))]) (P2 := []) rfl ?_
  refine jc_putF C hname (i := 0) dX6_init_34 rfl rfl (by decide +kernel) tyX6 tyX6_ok nmX6 (k := 6) (by decide) (by decide +kernel) rfl rfl (ty := tyX6 6) (by decide +kernel) rfl rfl (Nat.le_of_ble_eq_true rfl) ?_
  refine jc_to (X2 := [(q, .inr (5, [.ref q1, .int (nI 0), .ref q2, .ref q3, .int (nI 0), .int (nI 0), .ref q4, .null, .int (nI 0), .int (nI 0), .int (nI 0), .int (nI 0)])), (q1, .inl (G.2.1 0, 531, .inl fZ)), (q2, .inl (G.2.1 1, 2, .inl fZ)), (q3, .inl (G.2.1 2, 60, .inl fZ)), (q4, .inl (G.2.1 0, 256, .inl fZ))]) (P2 := []) rfl ?_
  refine jc_aload_n C dX6_init_37 rfl ?_
  refine jc_bipush C dX6_init_38 (v := nI 9) (by decide) ?_
  refine jc_newa C (a0 := (9, .inl fZ)) dX6_init_40 rfl (by decide +kernel) (t := 0) rfl (fun _ => rfl) (by decide) (by decide) ⟨Nat.le_of_ble_eq_true rfl, Nat.le_of_ble_eq_true rfl⟩ (fun q5 => ?_)
  refine jc_to (X2 := [(q, .inr (5, [.ref q1, .int (nI 0), .ref q2, .ref q3, .int (nI 0), .int (nI 0), .ref q4, .null, .int (nI 0), .int (nI 0), .int (nI 0), .int (nI 0)])), (q1, .inl (G.2.1 0, 531, .inl fZ)), (q2, .inl (G.2.1 1, 2, .inl fZ)), (q3, .inl (G.2.1 2, 60, .inl fZ)), (q4, .inl (G.2.1 0, 256, .inl fZ)), (q5, .inl (G.2.1 0, 9, .inl fZ))]) (P2 := []) rfl ?_
  refine jc_putF C hname (i := 0) dX6_init_42 rfl rfl (by decide +kernel) tyX6 tyX6_ok nmX6 (k := 7) (by decide) (by decide +kernel) rfl rfl (ty := tyX6 7) (by decide +kernel) rfl rfl (Nat.le_of_ble_eq_true rfl) ?_
  refine jc_to (X2 := [(q, .inr (5, [.ref q1, .int (nI 0), .ref q2, .ref q3, .int (nI 0), .int (nI 0), .ref q4, .ref q5, .int (nI 0), .int (nI 0), .int (nI 0), .int (nI 0)])), (q1, .inl (G.2.1 0, 531, .inl fZ)), (q2, .inl (G.2.1 1, 2, .inl fZ)), (q3, .inl (G.2.1 2, 60, .inl fZ)), (q4, .inl (G.2.1 0, 256, .inl fZ)), (q5, .inl (G.2.1 0, 9, .inl fZ))]) (P2 := []) rfl ?_
  refine jc_iconst C dX6_init_45 (v := nI 0) (by decide) ?_
  refine jc_istore_n C dX6_init_46 (by decide) ?_
  have L2 : ∀ i, i ≤ 4 → JC G pg l ev { frames := 4, cells := 5, slots := 858, locals := 100 } sg mm #[.ref q] bl mt cd AZ 2 (MQ bl (QC G (fun v w => v = none ∧ ∃ f : Nat → Nat, f 0 = q ∧ w = mod9 G f) AZ) #[.ref q] sg 5 858 AZ) 5 858 72 [(0, .ref q), (1, .int (nI i))] [] [(q, .inr (5, [.ref q1, .int (nI 0), .ref q2, .ref q3, .int (nI 0), .int (nI 0), .ref q4, .ref q5, .int (nI 0), .int (nI 0), .int (nI 0), .int (nI 0)])), (q1, .inl (G.2.1 0, 531, .inl (mS2 i))), (q2, .inl (G.2.1 1, 2, .inl fZ)), (q3, .inl (G.2.1 2, 60, .inl fZ)), (q4, .inl (G.2.1 0, 256, .inl fZ)), (q5, .inl (G.2.1 0, 9, .inl fZ))] [] := by
    refine dnto ?_
    intro i hi ih
    refine jc_iload_n C dX6_init_72 rfl ?_
    refine jc_iconst C dX6_init_73 (v := nI 4) (by decide) ?_
    refine jc_icmp_geN C dX6_init_74 (tgt := 117) (by decide) (by omega) (by decide) (fun hge => ?_) (fun hlt => ?_)
    · obtain rfl : i = 4 := by omega
      exact jc_return C hret dX6_init_117 ⟨rfl, fun j => match j with | 0 => q | 1 => q1 | 2 => q2 | 3 => q3 | 4 => q4 | _ => q5, rfl, rfl⟩
    · refine jc_aload_n C dX6_init_77 rfl ?_
      refine jc_getf C (i := 0) (T := TX6) dX6_init_78 rfl rfl (by decide +kernel) (k := 0) (by decide) (by decide +kernel) rfl rfl ?_
      refine jc_iload_n C dX6_init_81 rfl ?_
      refine jc_callS C ck_at dX6_init_82 gX6_init_X6_at rfl ks_X6_at rfl rfl (Nat.le_of_ble_eq_true rfl) ⟨Nat.le_of_ble_eq_true rfl, Nat.le_of_ble_eq_true rfl⟩ rfl rfl ⟨Nat.le_of_ble_eq_true rfl, Nat.le_of_ble_eq_true rfl⟩ (fun v w1 hw => ?_)
      obtain ⟨rfl, rfl⟩ := hw
      refine jc_iload_n C dX6_init_85 rfl ?_
      refine jc_iastN C (i := 1) dX6_init_86 rfl (by omega) (by decide) ?_
      refine jc_aload_n C dX6_init_87 rfl ?_
      refine jc_getf C (i := 0) (T := TX6) dX6_init_88 rfl rfl (by decide +kernel) (k := 0) (by decide) (by decide +kernel) rfl rfl ?_
      refine jc_iload_n C dX6_init_91 rfl ?_
      refine jc_callS C ck_at dX6_init_92 gX6_init_X6_at rfl ks_X6_at rfl rfl (Nat.le_of_ble_eq_true rfl) ⟨Nat.le_of_ble_eq_true rfl, Nat.le_of_ble_eq_true rfl⟩ rfl rfl ⟨Nat.le_of_ble_eq_true rfl, Nat.le_of_ble_eq_true rfl⟩ (fun v w1 hw => ?_)
      obtain ⟨rfl, rfl⟩ := hw
      refine jc_iconst C dX6_init_95 (v := nI 1) (by decide) ?_
      refine jc_iaddN C dX6_init_96 ?_
      refine jc_iconst C dX6_init_97 (v := nI 3) (by decide) ?_
      refine jc_iastN C (i := 1) dX6_init_98 rfl (by omega) (by decide) ?_
      refine jc_aload_n C dX6_init_99 rfl ?_
      refine jc_getf C (i := 0) (T := TX6) dX6_init_100 rfl rfl (by decide +kernel) (k := 0) (by decide) (by decide +kernel) rfl rfl ?_
      refine jc_iload_n C dX6_init_103 rfl ?_
      refine jc_callS C ck_at dX6_init_104 gX6_init_X6_at rfl ks_X6_at rfl rfl (Nat.le_of_ble_eq_true rfl) ⟨Nat.le_of_ble_eq_true rfl, Nat.le_of_ble_eq_true rfl⟩ rfl rfl ⟨Nat.le_of_ble_eq_true rfl, Nat.le_of_ble_eq_true rfl⟩ (fun v w1 hw => ?_)
      obtain ⟨rfl, rfl⟩ := hw
      refine jc_iconst C dX6_init_107 (v := nI 2) (by decide) ?_
      refine jc_iaddN C dX6_init_108 ?_
      refine jc_iconst C dX6_init_109 (v := -1) (by decide) ?_
      refine jc_iastN C (i := 1) dX6_init_110 rfl (by omega) (by decide) ?_
      refine jc_iincN C dX6_init_111 rfl (by decide) ?_
      refine jc_goto C dX6_init_114 (tgt := 72) (by decide) ?_
      exact jc_to (X2 := [(q, .inr (5, [.ref q1, .int (nI 0), .ref q2, .ref q3, .int (nI 0), .int (nI 0), .ref q4, .ref q5, .int (nI 0), .int (nI 0), .int (nI 0), .int (nI 0)])), (q1, .inl (G.2.1 0, 531, .inl (mS2 (i + 1)))), (q2, .inl (G.2.1 1, 2, .inl fZ)), (q3, .inl (G.2.1 2, 60, .inl fZ)), (q4, .inl (G.2.1 0, 256, .inl fZ)), (q5, .inl (G.2.1 0, 9, .inl fZ))]) (P2 := []) (by rw [← mS2_s]; rfl) (ih hlt)
  have L1 : ∀ i, i ≤ 8 → JC G pg l ev { frames := 4, cells := 5, slots := 858, locals := 100 } sg mm #[.ref q] bl mt cd AZ 2 (MQ bl (QC G (fun v w => v = none ∧ ∃ f : Nat → Nat, f 0 = q ∧ w = mod9 G f) AZ) #[.ref q] sg 5 858 AZ) 5 858 47 [(0, .ref q), (1, .int (nI i))] [] [(q, .inr (5, [.ref q1, .int (nI 0), .ref q2, .ref q3, .int (nI 0), .int (nI 0), .ref q4, .ref q5, .int (nI 0), .int (nI 0), .int (nI 0), .int (nI 0)])), (q1, .inl (G.2.1 0, 531, .inl (mS1 i))), (q2, .inl (G.2.1 1, 2, .inl fZ)), (q3, .inl (G.2.1 2, 60, .inl fZ)), (q4, .inl (G.2.1 0, 256, .inl fZ)), (q5, .inl (G.2.1 0, 9, .inl fZ))] [] := by
    refine dnto ?_
    intro i hi ih
    refine jc_iload_n C dX6_init_47 rfl ?_
    refine jc_bipush C dX6_init_48 (v := nI 8) (by decide) ?_
    refine jc_icmp_geN C dX6_init_50 (tgt := 70) (by decide) (by omega) (by decide) (fun hge => ?_) (fun hlt => ?_)
    · obtain rfl : i = 8 := by omega
      refine jc_iconst C dX6_init_70 (v := nI 0) (by decide) ?_
      refine jc_istore_n C dX6_init_71 (by decide) ?_
      exact jc_to (X2 := [(q, .inr (5, [.ref q1, .int (nI 0), .ref q2, .ref q3, .int (nI 0), .int (nI 0), .ref q4, .ref q5, .int (nI 0), .int (nI 0), .int (nI 0), .int (nI 0)])), (q1, .inl (G.2.1 0, 531, .inl (mS2 0))), (q2, .inl (G.2.1 1, 2, .inl fZ)), (q3, .inl (G.2.1 2, 60, .inl fZ)), (q4, .inl (G.2.1 0, 256, .inl fZ)), (q5, .inl (G.2.1 0, 9, .inl fZ))]) (P2 := []) (by rw [mS2_0]) (L2 0 (by decide))
    · refine jc_aload_n C dX6_init_53 rfl ?_
      refine jc_getf C (i := 0) (T := TX6) dX6_init_54 rfl rfl (by decide +kernel) (k := 0) (by decide) (by decide +kernel) rfl rfl ?_
      refine jc_iconst C dX6_init_57 (v := nI 4) (by decide) ?_
      refine jc_iload_n C dX6_init_58 rfl ?_
      refine jc_imulN C dX6_init_59 ?_
      refine jc_iconst C dX6_init_60 (v := nI 3) (by decide) ?_
      refine jc_iaddN C dX6_init_61 ?_
      refine jc_iconst C dX6_init_62 (v := -1) (by decide) ?_
      refine jc_iastN C (i := 1) dX6_init_63 rfl (by omega) (by decide) ?_
      refine jc_iincN C dX6_init_64 rfl (by decide) ?_
      refine jc_goto C dX6_init_67 (tgt := 47) (by decide) ?_
      exact jc_to (X2 := [(q, .inr (5, [.ref q1, .int (nI 0), .ref q2, .ref q3, .int (nI 0), .int (nI 0), .ref q4, .ref q5, .int (nI 0), .int (nI 0), .int (nI 0), .int (nI 0)])), (q1, .inl (G.2.1 0, 531, .inl (mS1 (i + 1)))), (q2, .inl (G.2.1 1, 2, .inl fZ)), (q3, .inl (G.2.1 2, 60, .inl fZ)), (q4, .inl (G.2.1 0, 256, .inl fZ)), (q5, .inl (G.2.1 0, 9, .inl fZ))]) (P2 := []) (by rw [← mS1_s hlt]; rfl) (ih hlt)
  exact jc_to (X2 := [(q, .inr (5, [.ref q1, .int (nI 0), .ref q2, .ref q3, .int (nI 0), .int (nI 0), .ref q4, .ref q5, .int (nI 0), .int (nI 0), .int (nI 0), .int (nI 0)])), (q1, .inl (G.2.1 0, 531, .inl (mS1 0))), (q2, .inl (G.2.1 1, 2, .inl fZ)), (q3, .inl (G.2.1 2, 60, .inl fZ)), (q4, .inl (G.2.1 0, 256, .inl fZ)), (q5, .inl (G.2.1 0, 9, .inl fZ))]) (P2 := []) (by rw [mS1_0]) (L1 0 (by decide))
