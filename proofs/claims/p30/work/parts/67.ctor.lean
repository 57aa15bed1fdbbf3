/-! the constructors -/
def fZ : Nat → Int32 := fun _ => nI 0
def mI : Nat → Int32 := fun _ => -1
def t3 : Nat → Int32 := fun _ => nI 3
def fI (g : Nat → Int32) (i : Nat) : Nat → Int32 := fun k => if k < i then g k else nI 0
theorem fI_0 {g : Nat → Int32} : fI g 0 = fZ := funext fun k => if_neg (Nat.not_lt_zero k)
theorem fI_s {g : Nat → Int32} {i : Nat} : upd (fI g i) i (g i) = fI g (i + 1) := funext fun k => by
  by_cases e : k = i
  · subst e; rw [upd_eq]; exact (if_pos (Nat.lt_succ_self k)).symm
  · rw [upd_ne e]
    by_cases h : k < i
    · exact (if_pos h).trans (if_pos (Nat.lt_succ_of_lt h)).symm
    · exact (if_neg h).trans (if_neg (by omega)).symm
theorem fI_m (i : Nat) : upd (fI mI i) i (-1) = fI mI (i + 1) := fI_s
theorem fI_k (i : Nat) : upd (fI nI i) i (nI i) = fI nI (i + 1) := fI_s
theorem fI_3 (i : Nat) : upd (fI t3 i) i (nI 3) = fI t3 (i + 1) := fI_s
abbrev refs (f : Nat → Option Nat) : (Nat → Int32) ⊕ ((Nat → Int64) ⊕ ((Nat → UInt32) ⊕ ((Nat → UInt64) ⊕ (Nat → Option Nat)))) := .inr (.inr (.inr (.inr f)))
def bur (G : GG) (f : Nat → Nat) : va_W := [(f 0, .inr (0, [.ref (f 1), .ref (f 2), .ref (f 3), .ref (f 4), .ref (f 5), .ref (f 6), .ref (f 7), .int (nI 0), .int (nI 0), .int (nI 0)])), (f 1, .inl (G.2.1 0, 8, .inl fZ)), (f 2, .inl (G.2.1 0, 8, .inl (fI mI 8))), (f 3, .inl (G.2.1 0, 4, .inl (fI nI 4))), (f 4, .inl (G.2.1 0, 4, .inl (fI t3 4))), (f 5, .inl (G.2.1 0, 4, .inl (fI mI 4))), (f 6, .inl (G.2.1 0, 6, .inl fZ)), (f 7, .inl (G.2.1 0, 6, .inl fZ))]
def bo0 : List Value := [.null, .null, .null, .null, .null, .null, .null, .int (nI 0), .int (nI 0), .int (nI 0)]
def upN (n : Nat) (q : Nat → Nat) : Nat → Option Nat := match n with
  | 0 => fun _ => none
  | k + 1 => va_up (upN k q) k (some (q k))

set_option maxHeartbeats 4000000 in
set_option maxRecDepth 100000 in
theorem ck_Bureau {l : Launch} {G : GG} {q : Nat} : Cz l G yX0_init wsX0_init { frames := 2, cells := 7, slots := 40, locals := 40 } 7 40 [.ref q] [(q, .inr (0, bo0))] (fun v w => v = none ∧ ∃ f : Nat → Nat, f 0 = q ∧ w = bur G f) := by
  refine Cz.of (cc := cX0_init) (maxL := 2) (ret := none) (lv := [(0, .ref q)]) (by decide) rfl rfl (Nat.le_of_ble_eq_true rfl) ?_
  intro pg ev sg mm bl mt cd AZ C hname hret
  refine jc_aload_n C dX0_init_0 rfl ?_
  refine jc_objInit C dX0_init_1 (by decide +kernel) (by decide +kernel) (by decide +kernel) (by decide) (Nat.le_of_ble_eq_true rfl) ?_
  refine jc_to (X2 := [(q, .inr (0, [.null, .null, .null, .null, .null, .null, .null, .int (nI 0), .int (nI 0), .int (nI 0)]))]) (P2 := []) rfl ?_
  refine jc_aload_n C dX0_init_4 rfl ?_
  refine jc_bipush C dX0_init_5 (v := nI 8) (by decide) ?_
  refine jc_newa C (a0 := (8, .inl fZ)) dX0_init_7 rfl (by decide +kernel) (t := 0) rfl (fun _ => rfl) (by decide) (by decide) ⟨Nat.le_of_ble_eq_true rfl, Nat.le_of_ble_eq_true rfl⟩ (fun q1 => ?_)
  refine jc_to (X2 := [(q, .inr (0, [.null, .null, .null, .null, .null, .null, .null, .int (nI 0), .int (nI 0), .int (nI 0)])), (q1, .inl (G.2.1 0, 8, .inl fZ))]) (P2 := []) rfl ?_
  refine jc_putF C hname (i := 0) dX0_init_9 rfl rfl (by decide +kernel) tyX0 tyX0_ok nmX0 (k := 0) (by decide) (by decide +kernel) rfl rfl (ty := tyX0 0) (by decide +kernel) rfl rfl (Nat.le_of_ble_eq_true rfl) ?_
  refine jc_to (X2 := [(q, .inr (0, [.ref q1, .null, .null, .null, .null, .null, .null, .int (nI 0), .int (nI 0), .int (nI 0)])), (q1, .inl (G.2.1 0, 8, .inl fZ))]) (P2 := []) rfl ?_
  refine jc_aload_n C dX0_init_12 rfl ?_
  refine jc_bipush C dX0_init_13 (v := nI 8) (by decide) ?_
  refine jc_newa C (a0 := (8, .inl fZ)) dX0_init_15 rfl (by decide +kernel) (t := 0) rfl (fun _ => rfl) (by decide) (by decide) ⟨Nat.le_of_ble_eq_true rfl, Nat.le_of_ble_eq_true rfl⟩ (fun q2 => ?_)
  refine jc_to (X2 := [(q, .inr (0, [.ref q1, .null, .null, .null, .null, .null, .null, .int (nI 0), .int (nI 0), .int (nI 0)])), (q1, .inl (G.2.1 0, 8, .inl fZ)), (q2, .inl (G.2.1 0, 8, .inl fZ))]) (P2 := []) rfl ?_
  refine jc_putF C hname (i := 0) dX0_init_17 rfl rfl (by decide +kernel) tyX0 tyX0_ok nmX0 (k := 1) (by decide) (by decide +kernel) rfl rfl (ty := tyX0 1) (by decide +kernel) rfl rfl (Nat.le_of_ble_eq_true rfl) ?_
  refine jc_to (X2 := [(q, .inr (0, [.ref q1, .ref q2, .null, .null, .null, .null, .null, .int (nI 0), .int (nI 0), .int (nI 0)])), (q1, .inl (G.2.1 0, 8, .inl fZ)), (q2, .inl (G.2.1 0, 8, .inl fZ))]) (P2 := []) rfl ?_
  refine jc_aload_n C dX0_init_20 rfl ?_
  refine jc_iconst C dX0_init_21 (v := nI 4) (by decide) ?_
  refine jc_newa C (a0 := (4, .inl fZ)) dX0_init_22 rfl (by decide +kernel) (t := 0) rfl (fun _ => rfl) (by decide) (by decide) ⟨Nat.le_of_ble_eq_true rfl, Nat.le_of_ble_eq_true rfl⟩ (fun q3 => ?_)
  refine jc_to (X2 := [(q, .inr (0, [.ref q1, .ref q2, .null, .null, .null, .null, .null, .int (nI 0), .int (nI 0), .int (nI 0)])), (q1, .inl (G.2.1 0, 8, .inl fZ)), (q2, .inl (G.2.1 0, 8, .inl fZ)), (q3, .inl (G.2.1 0, 4, .inl fZ))]) (P2 := []) rfl ?_
  refine jc_putF C hname (i := 0) dX0_init_24 rfl rfl (by decide +kernel) tyX0 tyX0_ok nmX0 (k := 2) (by decide) (by decide +kernel) rfl rfl (ty := tyX0 2) (by decide +kernel) rfl rfl (Nat.le_of_ble_eq_true rfl) ?_
  refine jc_to (X2 := [(q, .inr (0, [.ref q1, .ref q2, .ref q3, .null, .null, .null, .null, .int (nI 0), .int (nI 0), .int (nI 0)])), (q1, .inl (G.2.1 0, 8, .inl fZ)), (q2, .inl (G.2.1 0, 8, .inl fZ)), (q3, .inl (G.2.1 0, 4, .inl fZ))]) (P2 := []) rfl ?_
  refine jc_aload_n C dX0_init_27 rfl ?_
  refine jc_iconst C dX0_init_28 (v := nI 4) (by decide) ?_
  refine jc_newa C (a0 := (4, .inl fZ)) dX0_init_29 rfl (by decide +kernel) (t := 0) rfl (fun _ => rfl) (by decide) (by decide) ⟨Nat.le_of_ble_eq_true rfl, Nat.le_of_ble_eq_true rfl⟩ (fun q4 => ?_)
  refine jc_to (X2 := [(q, .inr (0, [.ref q1, .ref q2, .ref q3, .null, .null, .null, .null, .int (nI 0), .int (nI 0), .int (nI 0)])), (q1, .inl (G.2.1 0, 8, .inl fZ)), (q2, .inl (G.2.1 0, 8, .inl fZ)), (q3, .inl (G.2.1 0, 4, .inl fZ)), (q4, .inl (G.2.1 0, 4, .inl fZ))]) (P2 := []) rfl ?_
  refine jc_putF C hname (i := 0) dX0_init_31 rfl rfl (by decide +kernel) tyX0 tyX0_ok nmX0 (k := 3) (by decide) (by decide +kernel) rfl rfl (ty := tyX0 3) (by decide +kernel) rfl rfl (Nat.le_of_ble_eq_true rfl) ?_
  refine jc_to (X2 := [(q, .inr (0, [.ref q1, .ref q2, .ref q3, .ref q4, .null, .null, .null, .int (nI 0), .int (nI 0), .int (nI 0)])), (q1, .inl (G.2.1 0, 8, .inl fZ)), (q2, .inl (G.2.1 0, 8, .inl fZ)), (q3, .inl (G.2.1 0, 4, .inl fZ)), (q4, .inl (G.2.1 0, 4, .inl fZ))]) (P2 := []) rfl ?_
  refine jc_aload_n C dX0_init_34 rfl ?_
  refine jc_iconst C dX0_init_35 (v := nI 4) (by decide) ?_
  refine jc_newa C (a0 := (4, .inl fZ)) dX0_init_36 rfl (by decide +kernel) (t := 0) rfl (fun _ => rfl) (by decide) (by decide) ⟨Nat.le_of_ble_eq_true rfl, Nat.le_of_ble_eq_true rfl⟩ (fun q5 => ?_)
  refine jc_to (X2 := [(q, .inr (0, [.ref q1, .ref q2, .ref q3, .ref q4, .null, .null, .null, .int (nI 0), .int (nI 0), .int (nI 0)])), (q1, .inl (G.2.1 0, 8, .inl fZ)), (q2, .inl (G.2.1 0, 8, .inl fZ)), (q3, .inl (G.2.1 0, 4, .inl fZ)), (q4, .inl (G.2.1 0, 4, .inl fZ)), (q5, .inl (G.2.1 0, 4, .inl fZ))]) (P2 := []) rfl ?_
  refine jc_putF C hname (i := 0) dX0_init_38 rfl rfl (by decide +kernel) tyX0 tyX0_ok nmX0 (k := 4) (by decide) (by decide +kernel) rfl rfl (ty := tyX0 4) (by decide +kernel) rfl rfl (Nat.le_of_ble_eq_true rfl) ?_
  refine jc_to (X2 := [(q, .inr (0, [.ref q1, .ref q2, .ref q3, .ref q4, .ref q5, .null, .null, .int (nI 0), .int (nI 0), .int (nI 0)])), (q1, .inl (G.2.1 0, 8, .inl fZ)), (q2, .inl (G.2.1 0, 8, .inl fZ)), (q3, .inl (G.2.1 0, 4, .inl fZ)), (q4, .inl (G.2.1 0, 4, .inl fZ)), (q5, .inl (G.2.1 0, 4, .inl fZ))]) (P2 := []) rfl ?_
  refine jc_aload_n C dX0_init_41 rfl ?_
  refine jc_bipush C dX0_init_42 (v := nI 6) (by decide) ?_
  refine jc_newa C (a0 := (6, .inl fZ)) dX0_init_44 rfl (by decide +kernel) (t := 0) rfl (fun _ => rfl) (by decide) (by decide) ⟨Nat.le_of_ble_eq_true rfl, Nat.le_of_ble_eq_true rfl⟩ (fun q6 => ?_)
  refine jc_to (X2 := [(q, .inr (0, [.ref q1, .ref q2, .ref q3, .ref q4, .ref q5, .null, .null, .int (nI 0), .int (nI 0), .int (nI 0)])), (q1, .inl (G.2.1 0, 8, .inl fZ)), (q2, .inl (G.2.1 0, 8, .inl fZ)), (q3, .inl (G.2.1 0, 4, .inl fZ)), (q4, .inl (G.2.1 0, 4, .inl fZ)), (q5, .inl (G.2.1 0, 4, .inl fZ)), (q6, .inl (G.2.1 0, 6, .inl fZ))]) (P2 := []) rfl ?_
  refine jc_putF C hname (i := 0) dX0_init_46 rfl rfl (by decide +kernel) tyX0 tyX0_ok nmX0 (k := 5) (by decide) (by decide +kernel) rfl rfl (ty := tyX0 5) (by decide +kernel) rfl rfl (Nat.le_of_ble_eq_true rfl) ?_
  refine jc_to (X2 := [(q, .inr (0, [.ref q1, .ref q2, .ref q3, .ref q4, .ref q5, .ref q6, .null, .int (nI 0), .int (nI 0), .int (nI 0)])), (q1, .inl (G.2.1 0, 8, .inl fZ)), (q2, .inl (G.2.1 0, 8, .inl fZ)), (q3, .inl (G.2.1 0, 4, .inl fZ)), (q4, .inl (G.2.1 0, 4, .inl fZ)), (q5, .inl (G.2.1 0, 4, .inl fZ)), (q6, .inl (G.2.1 0, 6, .inl fZ))]) (P2 := []) rfl ?_
  refine jc_aload_n C dX0_init_49 rfl ?_
  refine jc_bipush C dX0_init_50 (v := nI 6) (by decide) ?_
  refine jc_newa C (a0 := (6, .inl fZ)) dX0_init_52 rfl (by decide +kernel) (t := 0) rfl (fun _ => rfl) (by decide) (by decide) ⟨Nat.le_of_ble_eq_true rfl, Nat.le_of_ble_eq_true rfl⟩ (fun q7 => ?_)
  refine jc_to (X2 := [(q, .inr (0, [.ref q1, .ref q2, .ref q3, .ref q4, .ref q5, .ref q6, .null, .int (nI 0), .int (nI 0), .int (nI 0)])), (q1, .inl (G.2.1 0, 8, .inl fZ)), (q2, .inl (G.2.1 0, 8, .inl fZ)), (q3, .inl (G.2.1 0, 4, .inl fZ)), (q4, .inl (G.2.1 0, 4, .inl fZ)), (q5, .inl (G.2.1 0, 4, .inl fZ)), (q6, .inl (G.2.1 0, 6, .inl fZ)), (q7, .inl (G.2.1 0, 6, .inl fZ))]) (P2 := []) rfl ?_
  refine jc_putF C hname (i := 0) dX0_init_54 rfl rfl (by decide +kernel) tyX0 tyX0_ok nmX0 (k := 6) (by decide) (by decide +kernel) rfl rfl (ty := tyX0 6) (by decide +kernel) rfl rfl (Nat.le_of_ble_eq_true rfl) ?_
  refine jc_to (X2 := [(q, .inr (0, [.ref q1, .ref q2, .ref q3, .ref q4, .ref q5, .ref q6, .ref q7, .int (nI 0), .int (nI 0), .int (nI 0)])), (q1, .inl (G.2.1 0, 8, .inl fZ)), (q2, .inl (G.2.1 0, 8, .inl fZ)), (q3, .inl (G.2.1 0, 4, .inl fZ)), (q4, .inl (G.2.1 0, 4, .inl fZ)), (q5, .inl (G.2.1 0, 4, .inl fZ)), (q6, .inl (G.2.1 0, 6, .inl fZ)), (q7, .inl (G.2.1 0, 6, .inl fZ))]) (P2 := []) rfl ?_
  refine jc_iconst C dX0_init_57 (v := nI 0) (by decide) ?_
  refine jc_istore_n C dX0_init_58 (by decide) ?_
  have L2 : ∀ i, i ≤ 4 → JC G pg l ev { frames := 2, cells := 7, slots := 40, locals := 40 } sg mm #[.ref q] bl mt cd AZ 2 (MQ bl (QC G (fun v w => v = none ∧ ∃ f : Nat → Nat, f 0 = q ∧ w = bur G f) AZ) #[.ref q] sg 7 40 AZ) 7 40 80 [(0, .ref q), (1, .int (nI i))] [] [(q, .inr (0, [.ref q1, .ref q2, .ref q3, .ref q4, .ref q5, .ref q6, .ref q7, .int (nI 0), .int (nI 0), .int (nI 0)])), (q1, .inl (G.2.1 0, 8, .inl fZ)), (q2, .inl (G.2.1 0, 8, .inl (fI mI (8)))), (q3, .inl (G.2.1 0, 4, .inl (fI nI (i)))), (q4, .inl (G.2.1 0, 4, .inl (fI t3 (i)))), (q5, .inl (G.2.1 0, 4, .inl (fI mI (i)))), (q6, .inl (G.2.1 0, 6, .inl fZ)), (q7, .inl (G.2.1 0, 6, .inl fZ))] [] := by
    refine dnto ?_
    intro i hi ih
    refine jc_iload_n C dX0_init_80 rfl ?_
    refine jc_iconst C dX0_init_81 (v := nI 4) (by decide) ?_
    refine jc_icmp_geN C dX0_init_82 (tgt := 112) (by decide) (by omega) (by decide) (fun hge => ?_) (fun hlt => ?_)
    · obtain rfl : i = 4 := by omega
      exact jc_return C hret dX0_init_112 ⟨rfl, fun j => match j with | 0 => q | 1 => q1 | 2 => q2 | 3 => q3 | 4 => q4 | 5 => q5 | 6 => q6 | _ => q7, rfl, rfl⟩
    · refine jc_aload_n C dX0_init_85 rfl ?_
      refine jc_getf C (i := 0) (T := TX0) dX0_init_86 rfl rfl (by decide +kernel) (k := 2) (by decide) (by decide +kernel) rfl rfl ?_
      refine jc_iload_n C dX0_init_89 rfl ?_
      refine jc_iload_n C dX0_init_90 rfl ?_
      refine jc_iastN C (i := 3) dX0_init_91 rfl hlt (by decide) ?_
      refine jc_aload_n C dX0_init_92 rfl ?_
      refine jc_getf C (i := 0) (T := TX0) dX0_init_93 rfl rfl (by decide +kernel) (k := 3) (by decide) (by decide +kernel) rfl rfl ?_
      refine jc_iload_n C dX0_init_96 rfl ?_
      refine jc_iconst C dX0_init_97 (v := nI 3) (by decide) ?_
      refine jc_iastN C (i := 4) dX0_init_98 rfl hlt (by decide) ?_
      refine jc_aload_n C dX0_init_99 rfl ?_
      refine jc_getf C (i := 0) (T := TX0) dX0_init_100 rfl rfl (by decide +kernel) (k := 4) (by decide) (by decide +kernel) rfl rfl ?_
      refine jc_iload_n C dX0_init_103 rfl ?_
      refine jc_iconst C dX0_init_104 (v := -1) (by decide) ?_
      refine jc_iastN C (i := 5) dX0_init_105 rfl hlt (by decide) ?_
      refine jc_iincN C dX0_init_106 rfl (by decide) ?_
      refine jc_goto C dX0_init_109 (tgt := 80) (by decide) ?_
      exact jc_to (X2 := [(q, .inr (0, [.ref q1, .ref q2, .ref q3, .ref q4, .ref q5, .ref q6, .ref q7, .int (nI 0), .int (nI 0), .int (nI 0)])), (q1, .inl (G.2.1 0, 8, .inl fZ)), (q2, .inl (G.2.1 0, 8, .inl (fI mI (8)))), (q3, .inl (G.2.1 0, 4, .inl (fI nI (i + 1)))), (q4, .inl (G.2.1 0, 4, .inl (fI t3 (i + 1)))), (q5, .inl (G.2.1 0, 4, .inl (fI mI (i + 1)))), (q6, .inl (G.2.1 0, 6, .inl fZ)), (q7, .inl (G.2.1 0, 6, .inl fZ))]) (P2 := []) (by rw [← fI_k i, ← fI_3 i, ← fI_m i]; rfl) (ih hlt)
  have L1 : ∀ i, i ≤ 8 → JC G pg l ev { frames := 2, cells := 7, slots := 40, locals := 40 } sg mm #[.ref q] bl mt cd AZ 2 (MQ bl (QC G (fun v w => v = none ∧ ∃ f : Nat → Nat, f 0 = q ∧ w = bur G f) AZ) #[.ref q] sg 7 40 AZ) 7 40 59 [(0, .ref q), (1, .int (nI i))] [] [(q, .inr (0, [.ref q1, .ref q2, .ref q3, .ref q4, .ref q5, .ref q6, .ref q7, .int (nI 0), .int (nI 0), .int (nI 0)])), (q1, .inl (G.2.1 0, 8, .inl fZ)), (q2, .inl (G.2.1 0, 8, .inl (fI mI (i)))), (q3, .inl (G.2.1 0, 4, .inl (fI nI (0)))), (q4, .inl (G.2.1 0, 4, .inl (fI t3 (0)))), (q5, .inl (G.2.1 0, 4, .inl (fI mI (0)))), (q6, .inl (G.2.1 0, 6, .inl fZ)), (q7, .inl (G.2.1 0, 6, .inl fZ))] [] := by
    refine dnto ?_
    intro i hi ih
    refine jc_iload_n C dX0_init_59 rfl ?_
    refine jc_bipush C dX0_init_60 (v := nI 8) (by decide) ?_
    refine jc_icmp_geN C dX0_init_62 (tgt := 78) (by decide) (by omega) (by decide) (fun hge => ?_) (fun hlt => ?_)
    · obtain rfl : i = 8 := by omega
      refine jc_iconst C dX0_init_78 (v := nI 0) (by decide) ?_
      refine jc_istore_n C dX0_init_79 (by decide) ?_
      exact L2 0 (by decide)
    · refine jc_aload_n C dX0_init_65 rfl ?_
      refine jc_getf C (i := 0) (T := TX0) dX0_init_66 rfl rfl (by decide +kernel) (k := 1) (by decide) (by decide +kernel) rfl rfl ?_
      refine jc_iload_n C dX0_init_69 rfl ?_
      refine jc_iconst C dX0_init_70 (v := -1) (by decide) ?_
      refine jc_iastN C (i := 2) dX0_init_71 rfl hlt (by decide) ?_
      refine jc_iincN C dX0_init_72 rfl (by decide) ?_
      refine jc_goto C dX0_init_75 (tgt := 59) (by decide) ?_
      exact jc_to (X2 := [(q, .inr (0, [.ref q1, .ref q2, .ref q3, .ref q4, .ref q5, .ref q6, .ref q7, .int (nI 0), .int (nI 0), .int (nI 0)])), (q1, .inl (G.2.1 0, 8, .inl fZ)), (q2, .inl (G.2.1 0, 8, .inl (fI mI (i + 1)))), (q3, .inl (G.2.1 0, 4, .inl (fI nI (0)))), (q4, .inl (G.2.1 0, 4, .inl (fI t3 (0)))), (q5, .inl (G.2.1 0, 4, .inl (fI mI (0)))), (q6, .inl (G.2.1 0, 6, .inl fZ)), (q7, .inl (G.2.1 0, 6, .inl fZ))]) (P2 := []) (by rw [← fI_m i]; rfl) (ih hlt)
  exact jc_to (X2 := [(q, .inr (0, [.ref q1, .ref q2, .ref q3, .ref q4, .ref q5, .ref q6, .ref q7, .int (nI 0), .int (nI 0), .int (nI 0)])), (q1, .inl (G.2.1 0, 8, .inl fZ)), (q2, .inl (G.2.1 0, 8, .inl (fI mI (0)))), (q3, .inl (G.2.1 0, 4, .inl (fI nI (0)))), (q4, .inl (G.2.1 0, 4, .inl (fI t3 (0)))), (q5, .inl (G.2.1 0, 4, .inl (fI mI (0)))), (q6, .inl (G.2.1 0, 6, .inl fZ)), (q7, .inl (G.2.1 0, 6, .inl fZ))]) (P2 := []) (by rw [fI_0, fI_0, fI_0]) (L1 0 (by decide))

set_option maxHeartbeats 4000000 in
set_option maxRecDepth 100000 in
theorem ck_Text {l : Launch} {G : GG} {q : Nat} : Cz l G yX4_init wsX4_init { frames := 2, cells := 1, slots := 60, locals := 40 } 1 60 [.ref q] [(q, .inr (3, [.null, .int (nI 0)]))] (fun v w => v = none ∧ ∃ f : Nat → Nat, f 0 = q ∧ w = [(f 0, .inr (3, [.ref (f 1), .int (nI 0)])), (f 1, .inl (G.2.1 0, 60, .inl fZ))]) := by
  refine Cz.of (cc := cX4_init) (maxL := 1) (ret := none) (lv := [(0, .ref q)]) (by decide) rfl rfl (Nat.le_of_ble_eq_true rfl) ?_
  intro pg ev sg mm bl mt cd AZ C hname hret
  refine jc_aload_n C dX4_init_0 rfl ?_
  refine jc_objInit C dX4_init_1 (by decide +kernel) (by decide +kernel) (by decide +kernel) (by decide) (Nat.le_of_ble_eq_true rfl) ?_
  refine jc_aload_n C dX4_init_4 rfl ?_
  refine jc_bipush C dX4_init_5 (v := nI 60) (by decide) ?_
  refine jc_newa C (a0 := (60, .inl fZ)) dX4_init_7 rfl (by decide +kernel) (t := 0) rfl (fun _ => rfl) (by decide) (by decide) ⟨Nat.le_of_ble_eq_true rfl, Nat.le_of_ble_eq_true rfl⟩ (fun q1 => ?_)
  refine jc_to (X2 := [(q, .inr (3, [.null, .int (nI 0)])), (q1, .inl (G.2.1 0, 60, .inl fZ))]) (P2 := []) rfl ?_
  refine jc_putF C hname (i := 0) dX4_init_9 rfl rfl (by decide +kernel) tyX4 tyX4_ok nmX4 (k := 0) (by decide) (by decide +kernel) rfl rfl (ty := tyX4 0) (by decide +kernel) rfl rfl (Nat.le_of_ble_eq_true rfl) ?_
  refine jc_to (X2 := [(q, .inr (3, [.ref q1, .int (nI 0)])), (q1, .inl (G.2.1 0, 60, .inl fZ))]) (P2 := []) rfl ?_
  exact jc_return C hret dX4_init_12 ⟨rfl, fun j => match j with | 0 => q | _ => q1, rfl, rfl⟩

set_option maxHeartbeats 4000000 in
set_option maxRecDepth 100000 in
theorem ck_Labelling {l : Launch} {G : GG} {q : Nat} : Cz l G yX2_init wsX2_init { frames := 2, cells := 4, slots := 528, locals := 40 } 4 528 [.ref q] [(q, .inr (1, [.null, .null, .null, .null]))] (fun v w => v = none ∧ ∃ f : Nat → Nat, f 0 = q ∧ w = [(f 0, .inr (1, [.ref (f 1), .ref (f 2), .ref (f 3), .ref (f 4)])), (f 1, .inl (G.2.1 0, 8, .inl fZ)), (f 2, .inl (G.2.1 1, 256, .inl fZ)), (f 3, .inl (G.2.1 0, 256, .inl fZ)), (f 4, .inl (G.2.1 0, 8, .inl fZ))]) := by
  refine Cz.of (cc := cX2_init) (maxL := 1) (ret := none) (lv := [(0, .ref q)]) (by decide) rfl rfl (Nat.le_of_ble_eq_true rfl) ?_
  intro pg ev sg mm bl mt cd AZ C hname hret
  refine jc_aload_n C dX2_init_0 rfl ?_
  refine jc_objInit C dX2_init_1 (by decide +kernel) (by decide +kernel) (by decide +kernel) (by decide) (Nat.le_of_ble_eq_true rfl) ?_
  refine jc_aload_n C dX2_init_4 rfl ?_
  refine jc_bipush C dX2_init_5 (v := nI 8) (by decide) ?_
  refine jc_newa C (a0 := (8, .inl fZ)) dX2_init_7 rfl (by decide +kernel) (t := 0) rfl (fun _ => rfl) (by decide) (by decide) ⟨Nat.le_of_ble_eq_true rfl, Nat.le_of_ble_eq_true rfl⟩ (fun q1 => ?_)
  refine jc_to (X2 := [(q, .inr (1, [.null, .null, .null, .null])), (q1, .inl (G.2.1 0, 8, .inl fZ))]) (P2 := []) rfl ?_
  refine jc_putF C hname (i := 0) dX2_init_9 rfl rfl (by decide +kernel) tyX2 tyX2_ok nmX2 (k := 0) (by decide) (by decide +kernel) rfl rfl (ty := tyX2 0) (by decide +kernel) rfl rfl (Nat.le_of_ble_eq_true rfl) ?_
  refine jc_to (X2 := [(q, .inr (1, [.ref q1, .null, .null, .null])), (q1, .inl (G.2.1 0, 8, .inl fZ))]) (P2 := []) rfl ?_
  refine jc_aload_n C dX2_init_12 rfl ?_
  refine jc_sipush C dX2_init_13 (v := nI 256) (by decide) ?_
  refine jc_newa C (a0 := (256, .inl fZ)) dX2_init_16 rfl (by decide +kernel) (t := 1) rfl (fun _ => rfl) (by decide) (by decide) ⟨Nat.le_of_ble_eq_true rfl, Nat.le_of_ble_eq_true rfl⟩ (fun q2 => ?_)
  refine jc_to (X2 := [(q, .inr (1, [.ref q1, .null, .null, .null])), (q1, .inl (G.2.1 0, 8, .inl fZ)), (q2, .inl (G.2.1 1, 256, .inl fZ))]) (P2 := []) rfl ?_
  refine jc_putF C hname (i := 0) dX2_init_18 rfl rfl (by decide +kernel) tyX2 tyX2_ok nmX2 (k := 1) (by decide) (by decide +kernel) rfl rfl (ty := tyX2 1) (by decide +kernel) rfl rfl (Nat.le_of_ble_eq_true rfl) ?_
  refine jc_to (X2 := [(q, .inr (1, [.ref q1, .ref q2, .null, .null])), (q1, .inl (G.2.1 0, 8, .inl fZ)), (q2, .inl (G.2.1 1, 256, .inl fZ))]) (P2 := []) rfl ?_
  refine jc_aload_n C dX2_init_21 rfl ?_
  refine jc_sipush C dX2_init_22 (v := nI 256) (by decide) ?_
  refine jc_newa C (a0 := (256, .inl fZ)) dX2_init_25 rfl (by decide +kernel) (t := 0) rfl (fun _ => rfl) (by decide) (by decide) ⟨Nat.le_of_ble_eq_true rfl, Nat.le_of_ble_eq_true rfl⟩ (fun q3 => ?_)
  refine jc_to (X2 := [(q, .inr (1, [.ref q1, .ref q2, .null, .null])), (q1, .inl (G.2.1 0, 8, .inl fZ)), (q2, .inl (G.2.1 1, 256, .inl fZ)), (q3, .inl (G.2.1 0, 256, .inl fZ))]) (P2 := []) rfl ?_
  refine jc_putF C hname (i := 0) dX2_init_27 rfl rfl (by decide +kernel) tyX2 tyX2_ok nmX2 (k := 2) (by decide) (by decide +kernel) rfl rfl (ty := tyX2 2) (by decide +kernel) rfl rfl (Nat.le_of_ble_eq_true rfl) ?_
  refine jc_to (X2 := [(q, .inr (1, [.ref q1, .ref q2, .ref q3, .null])), (q1, .inl (G.2.1 0, 8, .inl fZ)), (q2, .inl (G.2.1 1, 256, .inl fZ)), (q3, .inl (G.2.1 0, 256, .inl fZ))]) (P2 := []) rfl ?_
  refine jc_aload_n C dX2_init_30 rfl ?_
  refine jc_bipush C dX2_init_31 (v := nI 8) (by decide) ?_
  refine jc_newa C (a0 := (8, .inl fZ)) dX2_init_33 rfl (by decide +kernel) (t := 0) rfl (fun _ => rfl) (by decide) (by decide) ⟨Nat.le_of_ble_eq_true rfl, Nat.le_of_ble_eq_true rfl⟩ (fun q4 => ?_)
  refine jc_to (X2 := [(q, .inr (1, [.ref q1, .ref q2, .ref q3, .null])), (q1, .inl (G.2.1 0, 8, .inl fZ)), (q2, .inl (G.2.1 1, 256, .inl fZ)), (q3, .inl (G.2.1 0, 256, .inl fZ)), (q4, .inl (G.2.1 0, 8, .inl fZ))]) (P2 := []) rfl ?_
  refine jc_putF C hname (i := 0) dX2_init_35 rfl rfl (by decide +kernel) tyX2 tyX2_ok nmX2 (k := 3) (by decide) (by decide +kernel) rfl rfl (ty := tyX2 3) (by decide +kernel) rfl rfl (Nat.le_of_ble_eq_true rfl) ?_
  refine jc_to (X2 := [(q, .inr (1, [.ref q1, .ref q2, .ref q3, .ref q4])), (q1, .inl (G.2.1 0, 8, .inl fZ)), (q2, .inl (G.2.1 1, 256, .inl fZ)), (q3, .inl (G.2.1 0, 256, .inl fZ)), (q4, .inl (G.2.1 0, 8, .inl fZ))]) (P2 := []) rfl ?_
  exact jc_return C hret dX2_init_38 ⟨rfl, fun j => match j with | 0 => q | 1 => q1 | 2 => q2 | 3 => q3 | _ => q4, rfl, rfl⟩
