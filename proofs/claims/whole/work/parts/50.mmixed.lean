set_option maxRecDepth 20000 in
theorem cst_X6_mixedOf_192 : Cond.constantLong RX6 192 (31) ∈ wsX6_mixedOf := by decide +kernel
theorem hN_m {F : Nat → Int64} {h x : Int64} {k : Nat} (e : F k = x) : 31 * hN F h k + x = hN F h (k + 1) := hN_s e
theorem hx_m {h x : Int64} : 31 * h + x = hx h x := rfl
def hPa (σ : Sg) (cp : Nat) (az bz : Nat × Nat) (h : Int64) (p : Nat) : Int64 := hx (hx (hN (f3 σ p) (hx (hx (hN (f2 σ p) (hN (f1 σ p) h 7) 8) (nI cp).toInt64) (nI cp).toInt64) 4) (lsR az).toInt64) (lsR bz).toInt64

set_option maxHeartbeats 4000000 in
set_option maxRecDepth 100000 in
theorem cm_mixedOf {l : Launch} {G : GG} {M : MM} {S : SS} (hX : Xm M S) (hO : OkS S) {p cp : Nat} (hp : p < 4) (hk : Chi (ap S.1 p) (fun _ => true) cp) {az bz : Nat × Nat} (haz : az = nst S.1 p 0 7 1000) (hbz : bz = nst S.1 p 7 0 1000) {h : Int64} : Ct l G yX6_mixedOf wsX6_mixedOf 10 ([.ref (G.2.2 84), .long (h), .int (nI p)] : List Value) M (fun v9 M9 => v9 = some (.long (hPa S.1 cp az bz h p)) ∧ Xm M9 S ∧ Off M M9 inM ∧ M9.2.1 84 5 = M.2.1 84 5) := by
  have hS := hX.1
  have hW := hO.1
  obtain ⟨nd, hnd⟩ := chi_fn (ap_self S.1 p)
  refine Ct.of (cc := cX6_mixedOf) (maxL := 7) (ret := (some .long)) (lv := [(0, .ref (G.2.2 84)), (1, .long (h)), (3, .int (nI p))]) (by decide) rfl rfl (Nat.le_of_ble_eq_true rfl) ?_
  intro pg ev sg mm bl mt cd AZ C hret
  refine j_lload_n C dX6_mixedOf_0 rfl ?_
  refine j_lstore C dX6_mixedOf_1 (by decide) ?_
  refine j_iconst C dX6_mixedOf_3 (v := nI 0) (by decide) ?_
  refine j_istore C dX6_mixedOf_4 (by decide) ?_
  have L6 : ∀ k, k ≤ 7 → J G pg l ev (rmD 10) sg mm ([.ref (G.2.2 84), .long (h), .int (nI p)] : List Value).toArray bl mt cd AZ 7 (MQ bl (QQ G (fun v9 M9 => v9 = some (.long (hPa S.1 cp az bz h p)) ∧ Xm M9 S ∧ Off M M9 inM ∧ M9.2.1 84 5 = M.2.1 84 5) AZ) ([.ref (G.2.2 84), .long (h), .int (nI p)] : List Value).toArray sg 0 0 AZ) 0 0 6 [(0, .ref (G.2.2 84)), (1, .long h), (3, .int (nI p)), (4, .long (hN (f1 S.1 p) h k)), (6, .int (nI k))] [] (M) := by
    refine dnto ?_
    intro k hk6 ih6
    refine j_iload C dX6_mixedOf_6 rfl ?_
    refine j_bipush C dX6_mixedOf_8 (v := nI 7) (by decide) ?_
    refine j_icmp_geN C dX6_mixedOf_10 (tgt := 36) (by decide) (by omega) (by omega) (fun cq10 => ?_) (fun cq10 => ?_)
    · have e7 : k = 7 := by omega
      subst e7
      refine j_iconst C dX6_mixedOf_36 (v := nI 0) (by decide) ?_
      refine j_istore C dX6_mixedOf_37 (by decide) ?_
      have L39 : ∀ i, i ≤ 8 → J G pg l ev (rmD 10) sg mm ([.ref (G.2.2 84), .long (h), .int (nI p)] : List Value).toArray bl mt cd AZ 7 (MQ bl (QQ G (fun v9 M9 => v9 = some (.long (hPa S.1 cp az bz h p)) ∧ Xm M9 S ∧ Off M M9 inM ∧ M9.2.1 84 5 = M.2.1 84 5) AZ) ([.ref (G.2.2 84), .long (h), .int (nI p)] : List Value).toArray sg 0 0 AZ) 0 0 39 [(0, .ref (G.2.2 84)), (1, .long h), (3, .int (nI p)), (4, .long (hN (f2 S.1 p) (hN (f1 S.1 p) h 7) i)), (6, .int (nI i))] [] (M) := by
        refine dnto ?_
        intro i hi39 ih39
        refine j_iload C dX6_mixedOf_39 rfl ?_
        refine j_bipush C dX6_mixedOf_41 (v := nI 8) (by decide) ?_
        refine j_icmp_geN C dX6_mixedOf_43 (tgt := 69) (by decide) (by omega) (by omega) (fun cq43 => ?_) (fun cq43 => ?_)
        · have e8 : i = 8 := by omega
          subst e8
          refine j_ldc2 C dX6_mixedOf_69 cst_X6_mixedOf_192 ?_
          refine j_lload C dX6_mixedOf_72 rfl ?_
          refine j_lmul C dX6_mixedOf_74 ?_
          refine j_aload_n C dX6_mixedOf_75 rfl ?_
          refine j_iload_n C dX6_mixedOf_76 rfl ?_
          refine j_callV C (cm_bySets hS hW hp hnd) dX6_mixedOf_77 rfl (by decide) (T := TX6) rfl gX6_mixedOf_X6_bySets rfl kd_X6_bySets rfl rfl (Nat.le_of_ble_eq_true rfl) ⟨by decide, by decide⟩ ⟨Nat.zero_le _, Nat.zero_le _⟩ (k_IQ fun M3 hq => ?_)
          have ho3 := hq
          have hX3 := hX.off ho3 (fun a ha => by omega)
          refine j_top C (nI cp) (congrArg nI (Chi.uniq ((hnd 255).congr b255) hk)) ?_
          refine j_i2l C dX6_mixedOf_80 ?_
          refine j_ladd C dX6_mixedOf_81 ?_
          refine j_topl C (_) hx_m ?_
          refine j_lstore C dX6_mixedOf_82 (by decide) ?_
          refine j_ldc2 C dX6_mixedOf_84 cst_X6_mixedOf_192 ?_
          refine j_lload C dX6_mixedOf_87 rfl ?_
          refine j_lmul C dX6_mixedOf_89 ?_
          refine j_aload_n C dX6_mixedOf_90 rfl ?_
          refine j_iload_n C dX6_mixedOf_91 rfl ?_
          refine j_callV C (cm_byTrying hX3.1 hW hp hk) dX6_mixedOf_92 rfl (by decide) (T := TX6) rfl gX6_mixedOf_X6_byTrying rfl kd_X6_byTrying rfl rfl (Nat.le_of_ble_eq_true rfl) ⟨by decide, by decide⟩ ⟨Nat.zero_le _, Nat.zero_le _⟩ (k_IQ fun M4 hq => ?_)
          have ho4 := hq
          have hX4 := hX3.off ho4 (fun a ha => by omega)
          have hS4 := hX4.1
          refine j_i2l C dX6_mixedOf_95 ?_
          refine j_ladd C dX6_mixedOf_96 ?_
          refine j_topl C (_) hx_m ?_
          refine j_lstore C dX6_mixedOf_97 (by decide) ?_
          refine j_iconst C dX6_mixedOf_99 (v := nI 0) (by decide) ?_
          refine j_istore C dX6_mixedOf_100 (by decide) ?_
          have L102 : ∀ q, q ≤ 4 → J G pg l ev (rmD 10) sg mm ([.ref (G.2.2 84), .long (h), .int (nI p)] : List Value).toArray bl mt cd AZ 7 (MQ bl (QQ G (fun v9 M9 => v9 = some (.long (hPa S.1 cp az bz h p)) ∧ Xm M9 S ∧ Off M M9 inM ∧ M9.2.1 84 5 = M.2.1 84 5) AZ) ([.ref (G.2.2 84), .long (h), .int (nI p)] : List Value).toArray sg 0 0 AZ) 0 0 102 [(0, .ref (G.2.2 84)), (1, .long h), (3, .int (nI p)), (4, .long (hN (f3 S.1 p) (hx (hx (hN (f2 S.1 p) (hN (f1 S.1 p) h 7) 8) (nI cp).toInt64) (nI cp).toInt64) q)), (6, .int (nI q))] [] (M4) := by
            refine dnto ?_
            intro q hq102 ih102
            refine j_iload C dX6_mixedOf_102 rfl ?_
            refine j_iconst C dX6_mixedOf_104 (v := nI 4) (by decide) ?_
            refine j_icmp_geN C dX6_mixedOf_105 (tgt := 131) (by decide) (by omega) (by omega) (fun cq105 => ?_) (fun cq105 => ?_)
            · have e4 : q = 4 := by omega
              subst e4
              refine j_ldc2 C dX6_mixedOf_131 cst_X6_mixedOf_192 ?_
              refine j_lload C dX6_mixedOf_134 rfl ?_
              refine j_lmul C dX6_mixedOf_136 ?_
              refine j_aload_n C dX6_mixedOf_137 rfl ?_
              refine j_iload_n C dX6_mixedOf_138 rfl ?_
              refine j_iconst C dX6_mixedOf_139 (v := nI 0) (by decide) ?_
              refine j_bipush C dX6_mixedOf_140 (v := nI 7) (by decide) ?_
              refine j_callV C (cm_least hS4 hW haz hp (by decide) (by decide)) dX6_mixedOf_142 rfl (by decide) (T := TX6) rfl gX6_mixedOf_X6_least rfl kd_X6_least rfl rfl (Nat.le_of_ble_eq_true rfl) ⟨by decide, by decide⟩ ⟨Nat.zero_le _, Nat.zero_le _⟩ (k_IQ fun M5 hq => ?_)
              obtain ⟨hF5, -⟩ := hq
              have hX5 := hX4.fr hF5 (fun _ h => h) (by omega) (by omega)
              refine j_i2l C dX6_mixedOf_145 ?_
              refine j_ladd C dX6_mixedOf_146 ?_
              refine j_topl C (_) hx_m ?_
              refine j_lstore C dX6_mixedOf_147 (by decide) ?_
              refine j_ldc2 C dX6_mixedOf_149 cst_X6_mixedOf_192 ?_
              refine j_lload C dX6_mixedOf_152 rfl ?_
              refine j_lmul C dX6_mixedOf_154 ?_
              refine j_aload_n C dX6_mixedOf_155 rfl ?_
              refine j_iload_n C dX6_mixedOf_156 rfl ?_
              refine j_bipush C dX6_mixedOf_157 (v := nI 7) (by decide) ?_
              refine j_iconst C dX6_mixedOf_159 (v := nI 0) (by decide) ?_
              refine j_callV C (cm_least hX5.1 hW hbz hp (by decide) (by decide)) dX6_mixedOf_160 rfl (by decide) (T := TX6) rfl gX6_mixedOf_X6_least rfl kd_X6_least rfl rfl (Nat.le_of_ble_eq_true rfl) ⟨by decide, by decide⟩ ⟨Nat.zero_le _, Nat.zero_le _⟩ (k_IQ fun M6 hq => ?_)
              obtain ⟨hF6, -⟩ := hq
              have hX6 := hX5.fr hF6 (fun _ h => h) (by omega) (by omega)
              refine j_i2l C dX6_mixedOf_163 ?_
              refine j_ladd C dX6_mixedOf_164 ?_
              refine j_topl C (_) hx_m ?_
              exact j_lreturn C hret dX6_mixedOf_165 ⟨rfl, hX6, (((ho3.mono (fun a ha => by unfold inM; omega)).tr (ho4.mono (fun a ha => by unfold inM; omega))).tr hF5.off).tr hF6.off, (hF6.2.2 5 (by omega)).trans ((hF5.2.2 5 (by omega)).trans (by rw [(ho4.1 84 (by omega)).2, (ho3.1 84 (by omega)).2]))⟩
            · refine j_ldc2 C dX6_mixedOf_108 cst_X6_mixedOf_192 ?_
              refine j_lload C dX6_mixedOf_111 rfl ?_
              refine j_lmul C dX6_mixedOf_113 ?_
              refine j_aload_n C dX6_mixedOf_114 rfl ?_
              refine j_iload_n C dX6_mixedOf_115 rfl ?_
              refine j_iload C dX6_mixedOf_116 rfl ?_
              refine j_callV C (cm_withLender hS4 hW hp (by omega)) dX6_mixedOf_118 rfl (by decide) (T := TX6) rfl gX6_mixedOf_X6_withLender rfl kd_X6_withLender rfl rfl (Nat.le_of_ble_eq_true rfl) ⟨by decide, by decide⟩ ⟨Nat.zero_le _, Nat.zero_le _⟩ (k_I ?_)
              refine j_i2l C dX6_mixedOf_121 ?_
              refine j_ladd C dX6_mixedOf_122 ?_
              refine j_topl C (_) (hN_m rfl) ?_
              refine j_lstore C dX6_mixedOf_123 (by decide) ?_
              refine j_iincN C dX6_mixedOf_125 rfl (by decide) ?_
              refine j_goto C dX6_mixedOf_128 (tgt := 102) (by decide) ?_
              exact ih102 (by omega)
          exact L102 0 (Nat.zero_le _)
        · refine j_ldc2 C dX6_mixedOf_46 cst_X6_mixedOf_192 ?_
          refine j_lload C dX6_mixedOf_49 rfl ?_
          refine j_lmul C dX6_mixedOf_51 ?_
          refine j_aload_n C dX6_mixedOf_52 rfl ?_
          refine j_iload_n C dX6_mixedOf_53 rfl ?_
          refine j_iload C dX6_mixedOf_54 rfl ?_
          refine j_callV C (cm_seenBy hS hW hp (by omega)) dX6_mixedOf_56 rfl (by decide) (T := TX6) rfl gX6_mixedOf_X6_seenBy rfl kd_X6_seenBy rfl rfl (Nat.le_of_ble_eq_true rfl) ⟨by decide, by decide⟩ ⟨Nat.zero_le _, Nat.zero_le _⟩ (k_I ?_)
          refine j_i2l C dX6_mixedOf_59 ?_
          refine j_ladd C dX6_mixedOf_60 ?_
          refine j_topl C (_) (hN_m rfl) ?_
          refine j_lstore C dX6_mixedOf_61 (by decide) ?_
          refine j_iincN C dX6_mixedOf_63 rfl (by decide) ?_
          refine j_goto C dX6_mixedOf_66 (tgt := 39) (by decide) ?_
          exact ih39 (by omega)
      exact L39 0 (Nat.zero_le _)
    · refine j_ldc2 C dX6_mixedOf_13 cst_X6_mixedOf_192 ?_
      refine j_lload C dX6_mixedOf_16 rfl ?_
      refine j_lmul C dX6_mixedOf_18 ?_
      refine j_aload_n C dX6_mixedOf_19 rfl ?_
      refine j_iload_n C dX6_mixedOf_20 rfl ?_
      refine j_iload C dX6_mixedOf_21 rfl ?_
      refine j_callV C (cm_ofPainter hS hW hp (by omega)) dX6_mixedOf_23 rfl (by decide) (T := TX6) rfl gX6_mixedOf_X6_ofPainter rfl kd_X6_ofPainter rfl rfl (Nat.le_of_ble_eq_true rfl) ⟨by decide, by decide⟩ ⟨Nat.zero_le _, Nat.zero_le _⟩ (k_I ?_)
      refine j_i2l C dX6_mixedOf_26 ?_
      refine j_ladd C dX6_mixedOf_27 ?_
      refine j_topl C (_) (hN_m rfl) ?_
      refine j_lstore C dX6_mixedOf_28 (by decide) ?_
      refine j_iincN C dX6_mixedOf_30 rfl (by decide) ?_
      refine j_goto C dX6_mixedOf_33 (tgt := 6) (by decide) ?_
      exact ih6 (by omega)
  exact L6 0 (Nat.zero_le _)
