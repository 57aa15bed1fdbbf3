set_option maxRecDepth 20000 in
theorem kd_X5_fewest : yX5_fewest.cls = RX5 ∧ yX5_fewest.cls ≠ "java/lang/invoke/MethodHandle" ∧ yX5_fewest.cls ≠ "java/lang/invoke/VarHandle" ∧ (parseMethodDescriptor yX5_fewest.desc).map (fun d => d.parameters.length) = some 2 := by decide +kernel
set_option maxRecDepth 20000 in
theorem kd_X5_leastChange : yX5_leastChange.cls = RX5 ∧ yX5_leastChange.cls ≠ "java/lang/invoke/MethodHandle" ∧ yX5_leastChange.cls ≠ "java/lang/invoke/VarHandle" ∧ (parseMethodDescriptor yX5_leastChange.desc).map (fun d => d.parameters.length) = some 3 := by decide +kernel
set_option maxRecDepth 20000 in
theorem kd_X5_ifBorrowed : yX5_ifBorrowed.cls = RX5 ∧ yX5_ifBorrowed.cls ≠ "java/lang/invoke/MethodHandle" ∧ yX5_ifBorrowed.cls ≠ "java/lang/invoke/VarHandle" ∧ (parseMethodDescriptor yX5_ifBorrowed.desc).map (fun d => d.parameters.length) = some 2 := by decide +kernel
set_option maxRecDepth 20000 in
theorem kd_X5_seen : yX5_seen.cls = RX5 ∧ yX5_seen.cls ≠ "java/lang/invoke/MethodHandle" ∧ yX5_seen.cls ≠ "java/lang/invoke/VarHandle" ∧ (parseMethodDescriptor yX5_seen.desc).map (fun d => d.parameters.length) = some 2 := by decide +kernel
set_option maxRecDepth 20000 in
theorem kd_X5_painterOf : yX5_painterOf.cls = RX5 ∧ yX5_painterOf.cls ≠ "java/lang/invoke/MethodHandle" ∧ yX5_painterOf.cls ≠ "java/lang/invoke/VarHandle" ∧ (parseMethodDescriptor yX5_painterOf.desc).map (fun d => d.parameters.length) = some 2 := by decide +kernel
def f1 (σ : Sg) (p : Nat) : Nat → Int64 := fun k => (ofN σ p k).toInt64
def f2 (σ : Sg) (p : Nat) : Nat → Int64 := fun k => (nI (sen σ p k)).toInt64
def f3 (σ : Sg) (p : Nat) : Nat → Int64 := fun q => (nI (prW σ p (q + 1))).toInt64
/-- the numbers of the painters before p; cf the fewest labels, az and bz the least changes -/
def hPs (σ : Sg) (cf : Nat → Nat) (az bz : Nat → Nat × Nat) (h : Int64) : Nat → Int64
  | 0 => h
  | p + 1 => hx (hx (hN (f3 σ p) (hx (hx (hN (f2 σ p) (hN (f1 σ p) (hPs σ cf az bz h p) 7) 8) (nI (cf p)).toInt64) (nI (cf p)).toInt64) 4) (lsR (az p)).toInt64) (lsR (bz p)).toInt64
theorem hPs_s {σ : Sg} {cf : Nat → Nat} {az bz : Nat → Nat × Nat} {h : Int64} {p : Nat} : hPs σ cf az bz h (p + 1) = hx (hx (hN (f3 σ p) (hx (hx (hN (f2 σ p) (hN (f1 σ p) (hPs σ cf az bz h p) 7) 8) (nI (cf p)).toInt64) (nI (cf p)).toInt64) 4) (lsR (az p)).toInt64) (lsR (bz p)).toInt64 := rfl

set_option maxHeartbeats 4000000 in
set_option maxRecDepth 100000 in
theorem ct_hashOfPainters {l : Launch} {G : GG} {M : MM} {S : SS} (hX : Xc M S) (hO : OkS S) {cf : Nat → Nat} (hcf : ∀ p, p < 4 → Chi (ap S.1 p) (fun _ => true) (cf p)) {az bz : Nat → Nat × Nat} (haz : ∀ p, p < 4 → az p = nst S.1 p 0 7 1000) (hbz : ∀ p, p < 4 → bz p = nst S.1 p 7 0 1000) {h : Int64} : Ct l G yX5_hashOfPainters wsX5_hashOfPainters 12 ([.ref (G.2.2 72), .long (h)] : List Value) M (fun v9 M9 => v9 = some (.long (hPs S.1 cf az bz h 4)) ∧ Xc M9 S ∧ Of M M9 inX) := by
  have hB := hX.1
  have hW := hO.1
  refine Ct.of (cc := cX5_hashOfPainters) (maxL := 7) (ret := (some .long)) (lv := [(0, .ref (G.2.2 72)), (1, .long (h))]) (by decide) rfl rfl (Nat.le_of_ble_eq_true rfl) ?_
  intro pg ev sg mm bl mt cd AZ C hret
  refine j_lload_n C dX5_hashOfPainters_0 rfl ?_
  refine j_lstore_n C dX5_hashOfPainters_1 (by decide) ?_
  refine j_iconst C dX5_hashOfPainters_2 (v := nI 0) (by decide) ?_
  refine j_istore C dX5_hashOfPainters_3 (by decide) ?_
  have L5 : ∀ p, p ≤ 4 → ∀ M2 : MM, Xc M2 S → Of M M2 inX → J G pg l ev (rmD 12) sg mm ([.ref (G.2.2 72), .long (h)] : List Value).toArray bl mt cd AZ 7 (MQ bl (QQ G (fun v9 M9 => v9 = some (.long (hPs S.1 cf az bz h 4)) ∧ Xc M9 S ∧ Of M M9 inX) AZ) ([.ref (G.2.2 72), .long (h)] : List Value).toArray sg 0 0 AZ) 0 0 5 [(0, .ref (G.2.2 72)), (1, .long h), (3, .long (hPs S.1 cf az bz h p)), (5, .int (nI p))] [] (M2) := by
    refine dnto ?_
    intro p hp5 ih5 M2 hX2 ho2
    refine j_iload C dX5_hashOfPainters_5 rfl ?_
    refine j_iconst C dX5_hashOfPainters_7 (v := nI 4) (by decide) ?_
    refine j_icmp_geN C dX5_hashOfPainters_8 (tgt := 162) (by decide) (by omega) (by omega) (fun cq8 => ?_) (fun cq8 => ?_)
    · have e9 : p = 4 := by omega
      subst e9
      refine j_lload_n C dX5_hashOfPainters_162 rfl ?_
      exact j_lreturn C hret dX5_hashOfPainters_163 ⟨rfl, hX2, ho2⟩
    · refine j_iconst C dX5_hashOfPainters_11 (v := nI 0) (by decide) ?_
      refine j_istore C dX5_hashOfPainters_12 (by decide) ?_
      have L14 : ∀ k, k ≤ 7 → J G pg l ev (rmD 12) sg mm ([.ref (G.2.2 72), .long (h)] : List Value).toArray bl mt cd AZ 7 (MQ bl (QQ G (fun v9 M9 => v9 = some (.long (hPs S.1 cf az bz h 4)) ∧ Xc M9 S ∧ Of M M9 inX) AZ) ([.ref (G.2.2 72), .long (h)] : List Value).toArray sg 0 0 AZ) 0 0 14 [(0, .ref (G.2.2 72)), (1, .long h), (3, .long (hN (f1 S.1 p) (hPs S.1 cf az bz h p) k)), (5, .int (nI p)), (6, .int (nI k))] [] (M2) := by
        refine dnto ?_
        intro k hk14 ih14
        refine j_iload C dX5_hashOfPainters_14 rfl ?_
        refine j_bipush C dX5_hashOfPainters_16 (v := nI 6) (by decide) ?_
        refine j_icmp_gtN C dX5_hashOfPainters_18 (tgt := 41) (by decide) (by omega) (by omega) (fun cq18 => ?_) (fun cq18 => ?_)
        · have e7 : k = 7 := by omega
          subst e7
          refine j_iconst C dX5_hashOfPainters_41 (v := nI 0) (by decide) ?_
          refine j_istore C dX5_hashOfPainters_42 (by decide) ?_
          have L44 : ∀ i, i ≤ 8 → J G pg l ev (rmD 12) sg mm ([.ref (G.2.2 72), .long (h)] : List Value).toArray bl mt cd AZ 7 (MQ bl (QQ G (fun v9 M9 => v9 = some (.long (hPs S.1 cf az bz h 4)) ∧ Xc M9 S ∧ Of M M9 inX) AZ) ([.ref (G.2.2 72), .long (h)] : List Value).toArray sg 0 0 AZ) 0 0 44 [(0, .ref (G.2.2 72)), (1, .long h), (3, .long (hN (f2 S.1 p) (hN (f1 S.1 p) (hPs S.1 cf az bz h p) 7) i)), (5, .int (nI p)), (6, .int (nI i))] [] (M2) := by
            refine dnto ?_
            intro i hi44 ih44
            refine j_iload C dX5_hashOfPainters_44 rfl ?_
            refine j_bipush C dX5_hashOfPainters_46 (v := nI 8) (by decide) ?_
            refine j_icmp_geN C dX5_hashOfPainters_48 (tgt := 71) (by decide) (by omega) (by omega) (fun cq48 => ?_) (fun cq48 => ?_)
            · have e8 : i = 8 := by omega
              subst e8
              refine j_lload_n C dX5_hashOfPainters_71 rfl ?_
              refine j_aload_n C dX5_hashOfPainters_72 rfl ?_
              refine j_iload C dX5_hashOfPainters_73 rfl ?_
              refine j_iconst C dX5_hashOfPainters_75 (v := nI 0) (by decide) ?_
              refine j_callV C (ct_fewest_0 hX2 hO (hcf p (by omega)) (by omega)) dX5_hashOfPainters_76 rfl (by decide) (T := TX5) rfl gX5_hashOfPainters_X5_fewest rfl kd_X5_fewest rfl rfl (Nat.le_of_ble_eq_true rfl) ⟨by decide, by decide⟩ ⟨Nat.zero_le _, Nat.zero_le _⟩ (k_IQ fun M3 hq => ?_)
              obtain ⟨hX3, ho3⟩ := hq
              refine j_i2l C dX5_hashOfPainters_79 ?_
              refine j_callS C ct_hashed dX5_hashOfPainters_80 gX5_hashOfPainters_X5_hashed rfl ks_X5_hashed rfl rfl (Nat.le_of_ble_eq_true rfl) ⟨by decide, by decide⟩ ⟨Nat.zero_le _, Nat.zero_le _⟩ (k_L ?_)
              refine j_lstore_n C dX5_hashOfPainters_83 (by decide) ?_
              refine j_lload_n C dX5_hashOfPainters_84 rfl ?_
              refine j_aload_n C dX5_hashOfPainters_85 rfl ?_
              refine j_iload C dX5_hashOfPainters_86 rfl ?_
              refine j_iconst C dX5_hashOfPainters_88 (v := nI 1) (by decide) ?_
              refine j_callV C (ct_fewest_1 hX3 hO (hcf p (by omega)) (by omega)) dX5_hashOfPainters_89 rfl (by decide) (T := TX5) rfl gX5_hashOfPainters_X5_fewest rfl kd_X5_fewest rfl rfl (Nat.le_of_ble_eq_true rfl) ⟨by decide, by decide⟩ ⟨Nat.zero_le _, Nat.zero_le _⟩ (k_IQ fun M4 hq => ?_)
              obtain ⟨hX4, ho4⟩ := hq
              refine j_i2l C dX5_hashOfPainters_92 ?_
              refine j_callS C ct_hashed dX5_hashOfPainters_93 gX5_hashOfPainters_X5_hashed rfl ks_X5_hashed rfl rfl (Nat.le_of_ble_eq_true rfl) ⟨by decide, by decide⟩ ⟨Nat.zero_le _, Nat.zero_le _⟩ (k_L ?_)
              refine j_lstore_n C dX5_hashOfPainters_96 (by decide) ?_
              refine j_iconst C dX5_hashOfPainters_97 (v := nI 0) (by decide) ?_
              refine j_istore C dX5_hashOfPainters_98 (by decide) ?_
              have L100 : ∀ q, q ≤ 4 → J G pg l ev (rmD 12) sg mm ([.ref (G.2.2 72), .long (h)] : List Value).toArray bl mt cd AZ 7 (MQ bl (QQ G (fun v9 M9 => v9 = some (.long (hPs S.1 cf az bz h 4)) ∧ Xc M9 S ∧ Of M M9 inX) AZ) ([.ref (G.2.2 72), .long (h)] : List Value).toArray sg 0 0 AZ) 0 0 100 [(0, .ref (G.2.2 72)), (1, .long h), (3, .long (hN (f3 S.1 p) (hx (hx (hN (f2 S.1 p) (hN (f1 S.1 p) (hPs S.1 cf az bz h p) 7) 8) (nI (cf p)).toInt64) (nI (cf p)).toInt64) q)), (5, .int (nI p)), (6, .int (nI q))] [] (M4) := by
                refine dnto ?_
                intro q hq100 ih100
                refine j_iload C dX5_hashOfPainters_100 rfl ?_
                refine j_iconst C dX5_hashOfPainters_102 (v := nI 4) (by decide) ?_
                refine j_icmp_geN C dX5_hashOfPainters_103 (tgt := 126) (by decide) (by omega) (by omega) (fun cq103 => ?_) (fun cq103 => ?_)
                · refine j_lload_n C dX5_hashOfPainters_126 rfl ?_
                  refine j_aload_n C dX5_hashOfPainters_127 rfl ?_
                  refine j_iload C dX5_hashOfPainters_128 rfl ?_
                  refine j_iconst C dX5_hashOfPainters_130 (v := nI 0) (by decide) ?_
                  refine j_bipush C dX5_hashOfPainters_131 (v := nI 7) (by decide) ?_
                  refine j_callV C (ct_leastChange hX4 hO (haz p (by omega)) (by omega) (by decide) (by decide) (by decide)) dX5_hashOfPainters_133 rfl (by decide) (T := TX5) rfl gX5_hashOfPainters_X5_leastChange rfl kd_X5_leastChange rfl rfl (Nat.le_of_ble_eq_true rfl) ⟨by decide, by decide⟩ ⟨Nat.zero_le _, Nat.zero_le _⟩ (k_I ?_)
                  refine j_i2l C dX5_hashOfPainters_136 ?_
                  refine j_callS C ct_hashed dX5_hashOfPainters_137 gX5_hashOfPainters_X5_hashed rfl ks_X5_hashed rfl rfl (Nat.le_of_ble_eq_true rfl) ⟨by decide, by decide⟩ ⟨Nat.zero_le _, Nat.zero_le _⟩ (k_L ?_)
                  refine j_lstore_n C dX5_hashOfPainters_140 (by decide) ?_
                  refine j_lload_n C dX5_hashOfPainters_141 rfl ?_
                  refine j_aload_n C dX5_hashOfPainters_142 rfl ?_
                  refine j_iload C dX5_hashOfPainters_143 rfl ?_
                  refine j_bipush C dX5_hashOfPainters_145 (v := nI 7) (by decide) ?_
                  refine j_iconst C dX5_hashOfPainters_147 (v := nI 0) (by decide) ?_
                  refine j_callV C (ct_leastChange hX4 hO (hbz p (by omega)) (by omega) (by decide) (by decide) (by decide)) dX5_hashOfPainters_148 rfl (by decide) (T := TX5) rfl gX5_hashOfPainters_X5_leastChange rfl kd_X5_leastChange rfl rfl (Nat.le_of_ble_eq_true rfl) ⟨by decide, by decide⟩ ⟨Nat.zero_le _, Nat.zero_le _⟩ (k_I ?_)
                  refine j_i2l C dX5_hashOfPainters_151 ?_
                  refine j_callS C ct_hashed dX5_hashOfPainters_152 gX5_hashOfPainters_X5_hashed rfl ks_X5_hashed rfl rfl (Nat.le_of_ble_eq_true rfl) ⟨by decide, by decide⟩ ⟨Nat.zero_le _, Nat.zero_le _⟩ (k_L ?_)
                  refine j_lstore_n C dX5_hashOfPainters_155 (by decide) ?_
                  refine j_iincN C dX5_hashOfPainters_156 rfl (by decide) ?_
                  refine j_goto C dX5_hashOfPainters_159 (tgt := 5) (by decide) ?_
                  have z5 := ih5 (by omega) M4 hX4 ((ho2.tr ho3).tr ho4)
                  rw [hPs_s] at z5
                  have e4 : q = 4 := by omega
                  subst e4
                  exact j_pick [0, 1, 2, 3] z5
                · refine j_lload_n C dX5_hashOfPainters_106 rfl ?_
                  refine j_aload_n C dX5_hashOfPainters_107 rfl ?_
                  refine j_iload C dX5_hashOfPainters_108 rfl ?_
                  refine j_iload C dX5_hashOfPainters_110 rfl ?_
                  refine j_callV C (ct_ifBorrowed hX4 hO (by omega) (by omega)) dX5_hashOfPainters_112 rfl (by decide) (T := TX5) rfl gX5_hashOfPainters_X5_ifBorrowed rfl kd_X5_ifBorrowed rfl rfl (Nat.le_of_ble_eq_true rfl) ⟨by decide, by decide⟩ ⟨Nat.zero_le _, Nat.zero_le _⟩ (k_I ?_)
                  refine j_i2l C dX5_hashOfPainters_115 ?_
                  refine j_callS C ct_hashed dX5_hashOfPainters_116 gX5_hashOfPainters_X5_hashed rfl ks_X5_hashed rfl rfl (Nat.le_of_ble_eq_true rfl) ⟨by decide, by decide⟩ ⟨Nat.zero_le _, Nat.zero_le _⟩ (k_L ?_)
                  refine j_topl C (_) (hN_s rfl) ?_
                  refine j_lstore_n C dX5_hashOfPainters_119 (by decide) ?_
                  refine j_iincN C dX5_hashOfPainters_120 rfl (by decide) ?_
                  refine j_goto C dX5_hashOfPainters_123 (tgt := 100) (by decide) ?_
                  exact ih100 (by omega)
              exact L100 0 (Nat.zero_le _)
            · refine j_lload_n C dX5_hashOfPainters_51 rfl ?_
              refine j_aload_n C dX5_hashOfPainters_52 rfl ?_
              refine j_iload C dX5_hashOfPainters_53 rfl ?_
              refine j_iload C dX5_hashOfPainters_55 rfl ?_
              refine j_callV C (ct_seen hX2 hO (by omega) (by omega)) dX5_hashOfPainters_57 rfl (by decide) (T := TX5) rfl gX5_hashOfPainters_X5_seen rfl kd_X5_seen rfl rfl (Nat.le_of_ble_eq_true rfl) ⟨by decide, by decide⟩ ⟨Nat.zero_le _, Nat.zero_le _⟩ (k_I ?_)
              refine j_i2l C dX5_hashOfPainters_60 ?_
              refine j_callS C ct_hashed dX5_hashOfPainters_61 gX5_hashOfPainters_X5_hashed rfl ks_X5_hashed rfl rfl (Nat.le_of_ble_eq_true rfl) ⟨by decide, by decide⟩ ⟨Nat.zero_le _, Nat.zero_le _⟩ (k_L ?_)
              refine j_topl C (_) (hN_s rfl) ?_
              refine j_lstore_n C dX5_hashOfPainters_64 (by decide) ?_
              refine j_iincN C dX5_hashOfPainters_65 rfl (by decide) ?_
              refine j_goto C dX5_hashOfPainters_68 (tgt := 44) (by decide) ?_
              exact ih44 (by omega)
          exact L44 0 (Nat.zero_le _)
        · refine j_lload_n C dX5_hashOfPainters_21 rfl ?_
          refine j_aload_n C dX5_hashOfPainters_22 rfl ?_
          refine j_iload C dX5_hashOfPainters_23 rfl ?_
          refine j_iload C dX5_hashOfPainters_25 rfl ?_
          refine j_callV C (ct_painterOf hX2 hO (by omega) (by omega)) dX5_hashOfPainters_27 rfl (by decide) (T := TX5) rfl gX5_hashOfPainters_X5_painterOf rfl kd_X5_painterOf rfl rfl (Nat.le_of_ble_eq_true rfl) ⟨by decide, by decide⟩ ⟨Nat.zero_le _, Nat.zero_le _⟩ (k_I ?_)
          refine j_i2l C dX5_hashOfPainters_30 ?_
          refine j_callS C ct_hashed dX5_hashOfPainters_31 gX5_hashOfPainters_X5_hashed rfl ks_X5_hashed rfl rfl (Nat.le_of_ble_eq_true rfl) ⟨by decide, by decide⟩ ⟨Nat.zero_le _, Nat.zero_le _⟩ (k_L ?_)
          refine j_topl C (_) (hN_s rfl) ?_
          refine j_lstore_n C dX5_hashOfPainters_34 (by decide) ?_
          refine j_iincN C dX5_hashOfPainters_35 rfl (by decide) ?_
          refine j_goto C dX5_hashOfPainters_38 (tgt := 14) (by decide) ?_
          exact ih14 (by omega)
      exact L14 0 (Nat.zero_le _)
  exact L5 0 (Nat.zero_le _) M hX Of.rf
