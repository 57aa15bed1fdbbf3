set_option maxHeartbeats 4000000 in
set_option maxRecDepth 100000 in
theorem cm_least {l : Launch} {G : GG} {M : MM} {σ : Sg} (hS : Sm M 0 σ) (hW : Wf σ) {p i j : Nat} {az : Nat × Nat} (hz : az = nst σ p i j 1000) (hp : p < 4) (hi : i < 8) (hj : j < 8) : Ct l G yX6_least wsX6_least 4 ([.ref (G.2.2 84), .int (nI p), .int (nI i), .int (nI j)] : List Value) M (fun v9 M9 => v9 = some (.int (lsR az)) ∧ Fr M M9 noJ (fun k => k = 8 ∨ k = 9 ∨ k = 10) ∧ ∀ k, az.1 = k + 1 → M9.2.1 84 8 = nI (k / 100) ∧ M9.2.1 84 9 = nI (k / 10 % 10) ∧ M9.2.1 84 10 = nI (k % 10)) := by
  obtain ⟨hk, hs, hl⟩ := hW.2.1 p hp
  obtain ⟨q1, q2, q3, q4⟩ := hW.1 i hi
  obtain ⟨r1, r2, r3, r4⟩ := hW.1 j hj
  refine Ct.of (cc := cX6_least) (maxL := 12) (ret := (some .int)) (lv := [(0, .ref (G.2.2 84)), (1, .int (nI p)), (2, .int (nI i)), (3, .int (nI j))]) (by decide) rfl rfl (Nat.le_of_ble_eq_true rfl) ?_
  intro pg ev sg mm bl mt cd AZ C hret
  refine j_iconst C dX6_least_0 (v := nI 4) (by decide) ?_
  refine j_iload_n C dX6_least_1 rfl ?_
  refine j_imulN C dX6_least_2 ?_
  refine j_istore C dX6_least_3 (by decide) ?_
  refine j_iconst C dX6_least_5 (v := -1) (by decide) ?_
  refine j_istore C dX6_least_6 (by decide) ?_
  refine j_iconst C dX6_least_8 (v := nI 0) (by decide) ?_
  refine j_istore C dX6_least_9 (by decide) ?_
  have L11 : ∀ k, k ≤ 1000 → ∀ (a : Nat × Nat) (M2 : MM), a = nst σ p i j k → (Fr M M2 noJ (fun k => k = 8 ∨ k = 9 ∨ k = 10) ∧ ∀ k, a.1 = k + 1 → M2.2.1 84 8 = nI (k / 100) ∧ M2.2.1 84 9 = nI (k / 10 % 10) ∧ M2.2.1 84 10 = nI (k % 10)) → J G pg l ev (rmD 4) sg mm ([.ref (G.2.2 84), .int (nI p), .int (nI i), .int (nI j)] : List Value).toArray bl mt cd AZ 12 (MQ bl (QQ G (fun v9 M9 => v9 = some (.int (lsR az)) ∧ Fr M M9 noJ (fun k => k = 8 ∨ k = 9 ∨ k = 10) ∧ ∀ k, az.1 = k + 1 → M9.2.1 84 8 = nI (k / 100) ∧ M9.2.1 84 9 = nI (k / 10 % 10) ∧ M9.2.1 84 10 = nI (k % 10)) AZ) ([.ref (G.2.2 84), .int (nI p), .int (nI i), .int (nI j)] : List Value).toArray sg 0 0 AZ) 0 0 11 [(0, .ref (G.2.2 84)), (1, .int (nI p)), (2, .int (nI i)), (3, .int (nI j)), (4, .int (nI (4 * i))), (5, .int (lsR a)), (6, .int (nI k))] [] (M2) := by
    refine dnto ?_
    intro k hk11 ih11 a M2 ha hF
    have ha2 : a.2 ≤ 28 ∧ (a.1 = 0 → a.2 = 28) := by rw [ha]; exact ⟨(nst_in σ p i j k).1.2, (nst_in σ p i j k).2.1⟩
    have hS2 : Sm M2 0 σ := hS.fr hF.1 (fun _ _ h => h)
    refine j_iload C dX6_least_11 rfl ?_
    refine j_sipush C dX6_least_13 (v := nI 1000) (by decide) ?_
    refine j_icmp_geN C dX6_least_16 (tgt := 169) (by decide) (by omega) (by omega) (fun cq16 => ?_) (fun cq16 => ?_)
    · have e9 : az = a := by rw [hz, ha, show k = 1000 by omega]
      clear hz
      subst e9
      refine j_iload C dX6_least_169 rfl ?_
      exact j_ireturn C hret dX6_least_171 ⟨rfl, hF.1, hF.2⟩
    · have hd27 : chg σ i k ≤ 27 := dist_le q1 q2 q3 (by omega) (by omega) (by omega)
      have hW2 := hW
      refine j_iload C dX6_least_19 rfl ?_
      refine j_bipush C dX6_least_21 (v := nI 100) (by decide) ?_
      refine j_idivN C dX6_least_23 (by omega) (by decide) (by decide) ?_
      refine j_istore C dX6_least_24 (by decide) ?_
      refine j_iload C dX6_least_26 rfl ?_
      refine j_bipush C dX6_least_28 (v := nI 10) (by decide) ?_
      refine j_idivN C dX6_least_30 (by omega) (by decide) (by decide) ?_
      refine j_bipush C dX6_least_31 (v := nI 10) (by decide) ?_
      refine j_iremN C dX6_least_33 (by omega) (by decide) (by decide) ?_
      refine j_istore C dX6_least_34 (by decide) ?_
      refine j_iload C dX6_least_36 rfl ?_
      refine j_bipush C dX6_least_38 (v := nI 10) (by decide) ?_
      refine j_iremN C dX6_least_40 (by omega) (by decide) (by decide) ?_
      refine j_istore C dX6_least_41 (by decide) ?_
      refine j_lv [(0, .ref (G.2.2 84)), (1, .int (nI p)), (2, .int (nI i)), (3, .int (nI j)), (4, .int (nI (4 * i))), (5, .int (lsR a)), (6, .int (nI k)), (7, .int (nI (k / 100))), (8, .int (nI (k / 10 % 10))), (9, .int (nI (k % 10)))] rfl ?_
      refine j_iload C dX6_least_43 rfl ?_
      refine j_aload_n C dX6_least_45 rfl ?_
      refine j_getf C dX6_least_46 rfl (by decide) (T := TX6) rfl in_X6_least_X6 (k := 0) (by decide) fl_X6_least_7 rfl rfl ?_
      refine j_iload C dX6_least_49 rfl ?_
      refine j_ialdN C dX6_least_51 (show ilen 85 = some 531 from rfl) (by omega) (by decide) ?_
      refine j_top C _ (m_c0 hS2 (by omega)) ?_
      refine j_isub C dX6_least_52 ?_
      refine j_callS C (cm_size (by omega) (by omega)) dX6_least_53 gX6_least_X6_size rfl ks_X6_size rfl rfl (Nat.le_of_ble_eq_true rfl) ⟨by decide, by decide⟩ ⟨Nat.zero_le _, Nat.zero_le _⟩ (k_I ?_)
      refine j_top C (_) (congrArg nI (ad_sym _ _)) ?_
      refine j_iload C dX6_least_56 rfl ?_
      refine j_aload_n C dX6_least_58 rfl ?_
      refine j_getf C dX6_least_59 rfl (by decide) (T := TX6) rfl in_X6_least_X6 (k := 0) (by decide) fl_X6_least_7 rfl rfl ?_
      refine j_iload C dX6_least_62 rfl ?_
      refine j_iconst C dX6_least_64 (v := nI 1) (by decide) ?_
      refine j_iaddN C dX6_least_65 ?_
      refine j_ialdN C dX6_least_66 (show ilen 85 = some 531 from rfl) (by omega) (by decide) ?_
      refine j_top C _ (m_c1 hS2 (by omega)) ?_
      refine j_isub C dX6_least_67 ?_
      refine j_callS C (cm_size (by omega) (by omega)) dX6_least_68 gX6_least_X6_size rfl ks_X6_size rfl rfl (Nat.le_of_ble_eq_true rfl) ⟨by decide, by decide⟩ ⟨Nat.zero_le _, Nat.zero_le _⟩ (k_I ?_)
      refine j_top C (_) (congrArg nI (ad_sym _ _)) ?_
      refine j_iaddN C dX6_least_71 ?_
      refine j_iload C dX6_least_72 rfl ?_
      refine j_aload_n C dX6_least_74 rfl ?_
      refine j_getf C dX6_least_75 rfl (by decide) (T := TX6) rfl in_X6_least_X6 (k := 0) (by decide) fl_X6_least_7 rfl rfl ?_
      refine j_iload C dX6_least_78 rfl ?_
      refine j_iconst C dX6_least_80 (v := nI 2) (by decide) ?_
      refine j_iaddN C dX6_least_81 ?_
      refine j_ialdN C dX6_least_82 (show ilen 85 = some 531 from rfl) (by omega) (by decide) ?_
      refine j_top C _ (m_c2 hS2 (by omega)) ?_
      refine j_isub C dX6_least_83 ?_
      refine j_callS C (cm_size (by omega) (by omega)) dX6_least_84 gX6_least_X6_size rfl ks_X6_size rfl rfl (Nat.le_of_ble_eq_true rfl) ⟨by decide, by decide⟩ ⟨Nat.zero_le _, Nat.zero_le _⟩ (k_I ?_)
      refine j_top C (_) (congrArg nI (ad_sym _ _)) ?_
      refine j_iaddN C dX6_least_87 ?_
      refine j_top C (_) (congrArg nI (chg_sum σ i k)) ?_
      refine j_istore C dX6_least_88 (by decide) ?_
      refine j_lv [(0, .ref (G.2.2 84)), (1, .int (nI p)), (2, .int (nI i)), (3, .int (nI j)), (4, .int (nI (4 * i))), (5, .int (lsR a)), (6, .int (nI k)), (7, .int (nI (k / 100))), (8, .int (nI (k / 10 % 10))), (9, .int (nI (k % 10))), (10, .int (nI (chg σ i k)))] rfl ?_
      refine j_iload C dX6_least_90 rfl ?_
      refine j_iconst C dX6_least_92 (v := -1) (by decide) ?_
      refine j_icmp_eqL C dX6_least_93 (tgt := 103) (by decide) (by omega) (fun cq93 => ?_) (fun cq93 => ?_)
      · refine j_iconst C dX6_least_103 (v := nI 1) (by decide) ?_
        refine j_top C (bI (decide (chg σ i k < a.2))) (by rw [decide_eq_true (by first | omega | (have := ha2.2 cq93; omega))]; rfl) ?_
        refine j_goto C dX6_least_104 (tgt := 108) (by decide) ?_
        refine j_istore C dX6_least_108 (by decide) ?_
        refine j_lv [(0, .ref (G.2.2 84)), (1, .int (nI p)), (2, .int (nI i)), (3, .int (nI j)), (4, .int (nI (4 * i))), (5, .int (lsR a)), (6, .int (nI k)), (7, .int (nI (k / 100))), (8, .int (nI (k / 10 % 10))), (9, .int (nI (k % 10))), (10, .int (nI (chg σ i k))), (11, .int (bI (decide (chg σ i k < a.2))))] rfl ?_
        refine j_iload C dX6_least_110 rfl ?_
        refine j_if_eqB C dX6_least_112 (tgt := 163) (by decide) (fun cq112 => ?_) (fun cq112 => ?_)
        · refine j_iincN C dX6_least_163 rfl (by decide) ?_
          refine j_goto C dX6_least_166 (tgt := 11) (by decide) ?_
          exact j_pick [0, 1, 2, 3, 4, 5, 6] (ih11 (by omega) a M2 (nst_f1 ha (Nat.not_lt.mp (of_decide_eq_false cq112))) hF)
        · refine j_aload_n C dX6_least_115 rfl ?_
          refine j_iload_n C dX6_least_116 rfl ?_
          refine j_aload_n C dX6_least_117 rfl ?_
          refine j_getf C dX6_least_118 rfl (by decide) (T := TX6) rfl in_X6_least_X6 (k := 0) (by decide) fl_X6_least_7 rfl rfl ?_
          refine j_iload_n C dX6_least_121 rfl ?_
          refine j_callS C cm_at dX6_least_122 gX6_least_X6_at rfl ks_X6_at rfl rfl (Nat.le_of_ble_eq_true rfl) ⟨by decide, by decide⟩ ⟨Nat.zero_le _, Nat.zero_le _⟩ (k_I ?_)
          refine j_iconst C dX6_least_125 (v := nI 2) (by decide) ?_
          refine j_iaddN C dX6_least_126 ?_
          refine j_ialdN C dX6_least_127 (show ilen 85 = some 531 from rfl) (by omega) (by decide) ?_
          refine j_top C _ (m_ln hS2 (by omega)) ?_
          refine j_iload C dX6_least_128 rfl ?_
          refine j_iload C dX6_least_130 rfl ?_
          refine j_iload C dX6_least_132 rfl ?_
          refine j_iload_n C dX6_least_134 rfl ?_
          refine j_callV C (cm_tells hS2 hW hp hl (by omega) (by omega) (by omega) hj) dX6_least_135 rfl (by decide) (T := TX6) rfl gX6_least_X6_tells rfl kd_X6_tells rfl rfl (Nat.le_of_ble_eq_true rfl) ⟨by decide, by decide⟩ ⟨Nat.zero_le _, Nat.zero_le _⟩ (k_I ?_)
          refine j_if_eqB C dX6_least_138 (tgt := 163) (by decide) (fun cq138 => ?_) (fun cq138 => ?_)
          · refine j_iincN C dX6_least_163 rfl (by decide) ?_
            refine j_goto C dX6_least_166 (tgt := 11) (by decide) ?_
            exact j_pick [0, 1, 2, 3, 4, 5, 6] (ih11 (by omega) a M2 (nst_f2 ha cq138) hF)
          · refine j_iload C dX6_least_141 rfl ?_
            refine j_istore C dX6_least_143 (by decide) ?_
            refine j_aload_n C dX6_least_145 rfl ?_
            refine j_iload C dX6_least_146 rfl ?_
            refine j_putf C dX6_least_148 rfl (by decide) (T := TX6) rfl in_X6_least_X6 tyX6 tyX6_ok nmX6 (k := 8) (by decide) fl_X6_least_71 rfl rfl (by decide +kernel) (Nat.le_of_ble_eq_true rfl) rfl ?_
            refine j_aload_n C dX6_least_151 rfl ?_
            refine j_iload C dX6_least_152 rfl ?_
            refine j_putf C dX6_least_154 rfl (by decide) (T := TX6) rfl in_X6_least_X6 tyX6 tyX6_ok nmX6 (k := 9) (by decide) fl_X6_least_74 rfl rfl (by decide +kernel) (Nat.le_of_ble_eq_true rfl) rfl ?_
            refine j_aload_n C dX6_least_157 rfl ?_
            refine j_iload C dX6_least_158 rfl ?_
            refine j_putf C dX6_least_160 rfl (by decide) (T := TX6) rfl in_X6_least_X6 tyX6 tyX6_ok nmX6 (k := 10) (by decide) fl_X6_least_77 rfl rfl (by decide +kernel) (Nat.le_of_ble_eq_true rfl) rfl ?_
            refine j_iincN C dX6_least_163 rfl (by decide) ?_
            refine j_goto C dX6_least_166 (tgt := 11) (by decide) ?_
            exact j_pick [0, 1, 2, 3, 4, 5, 6] (ih11 (by omega) (k + 1, chg σ i k) _ (nst_t ha (of_decide_eq_true cq112) cq138) (ls_put hF))
      · refine j_iload C dX6_least_96 rfl ?_
        refine j_iload C dX6_least_98 rfl ?_
        refine j_top C _ (lsR_p cq93) ?_
        refine j_icmp_geN C dX6_least_100 (tgt := 107) (by decide) (by omega) (by omega) (fun cq100 => ?_) (fun cq100 => ?_)
        · refine j_iconst C dX6_least_107 (v := nI 0) (by decide) ?_
          refine j_top C (bI (decide (chg σ i k < a.2))) (by rw [decide_eq_false (by omega)]; rfl) ?_
          refine j_istore C dX6_least_108 (by decide) ?_
          refine j_lv [(0, .ref (G.2.2 84)), (1, .int (nI p)), (2, .int (nI i)), (3, .int (nI j)), (4, .int (nI (4 * i))), (5, .int (lsR a)), (6, .int (nI k)), (7, .int (nI (k / 100))), (8, .int (nI (k / 10 % 10))), (9, .int (nI (k % 10))), (10, .int (nI (chg σ i k))), (11, .int (bI (decide (chg σ i k < a.2))))] rfl ?_
          refine j_iload C dX6_least_110 rfl ?_
          refine j_if_eqB C dX6_least_112 (tgt := 163) (by decide) (fun cq112 => ?_) (fun cq112 => ?_)
          · refine j_iincN C dX6_least_163 rfl (by decide) ?_
            refine j_goto C dX6_least_166 (tgt := 11) (by decide) ?_
            exact j_pick [0, 1, 2, 3, 4, 5, 6] (ih11 (by omega) a M2 (nst_f1 ha (Nat.not_lt.mp (of_decide_eq_false cq112))) hF)
          · refine j_aload_n C dX6_least_115 rfl ?_
            refine j_iload_n C dX6_least_116 rfl ?_
            refine j_aload_n C dX6_least_117 rfl ?_
            refine j_getf C dX6_least_118 rfl (by decide) (T := TX6) rfl in_X6_least_X6 (k := 0) (by decide) fl_X6_least_7 rfl rfl ?_
            refine j_iload_n C dX6_least_121 rfl ?_
            refine j_callS C cm_at dX6_least_122 gX6_least_X6_at rfl ks_X6_at rfl rfl (Nat.le_of_ble_eq_true rfl) ⟨by decide, by decide⟩ ⟨Nat.zero_le _, Nat.zero_le _⟩ (k_I ?_)
            refine j_iconst C dX6_least_125 (v := nI 2) (by decide) ?_
            refine j_iaddN C dX6_least_126 ?_
            refine j_ialdN C dX6_least_127 (show ilen 85 = some 531 from rfl) (by omega) (by decide) ?_
            refine j_top C _ (m_ln hS2 (by omega)) ?_
            refine j_iload C dX6_least_128 rfl ?_
            refine j_iload C dX6_least_130 rfl ?_
            refine j_iload C dX6_least_132 rfl ?_
            refine j_iload_n C dX6_least_134 rfl ?_
            refine j_callV C (cm_tells hS2 hW hp hl (by omega) (by omega) (by omega) hj) dX6_least_135 rfl (by decide) (T := TX6) rfl gX6_least_X6_tells rfl kd_X6_tells rfl rfl (Nat.le_of_ble_eq_true rfl) ⟨by decide, by decide⟩ ⟨Nat.zero_le _, Nat.zero_le _⟩ (k_I ?_)
            refine j_if_eqB C dX6_least_138 (tgt := 163) (by decide) (fun cq138 => ?_) (fun cq138 => ?_)
            · refine j_iincN C dX6_least_163 rfl (by decide) ?_
              refine j_goto C dX6_least_166 (tgt := 11) (by decide) ?_
              exact j_pick [0, 1, 2, 3, 4, 5, 6] (ih11 (by omega) a M2 (nst_f2 ha cq138) hF)
            · refine j_iload C dX6_least_141 rfl ?_
              refine j_istore C dX6_least_143 (by decide) ?_
              refine j_aload_n C dX6_least_145 rfl ?_
              refine j_iload C dX6_least_146 rfl ?_
              refine j_putf C dX6_least_148 rfl (by decide) (T := TX6) rfl in_X6_least_X6 tyX6 tyX6_ok nmX6 (k := 8) (by decide) fl_X6_least_71 rfl rfl (by decide +kernel) (Nat.le_of_ble_eq_true rfl) rfl ?_
              refine j_aload_n C dX6_least_151 rfl ?_
              refine j_iload C dX6_least_152 rfl ?_
              refine j_putf C dX6_least_154 rfl (by decide) (T := TX6) rfl in_X6_least_X6 tyX6 tyX6_ok nmX6 (k := 9) (by decide) fl_X6_least_74 rfl rfl (by decide +kernel) (Nat.le_of_ble_eq_true rfl) rfl ?_
              refine j_aload_n C dX6_least_157 rfl ?_
              refine j_iload C dX6_least_158 rfl ?_
              refine j_putf C dX6_least_160 rfl (by decide) (T := TX6) rfl in_X6_least_X6 tyX6 tyX6_ok nmX6 (k := 10) (by decide) fl_X6_least_77 rfl rfl (by decide +kernel) (Nat.le_of_ble_eq_true rfl) rfl ?_
              refine j_iincN C dX6_least_163 rfl (by decide) ?_
              refine j_goto C dX6_least_166 (tgt := 11) (by decide) ?_
              exact j_pick [0, 1, 2, 3, 4, 5, 6] (ih11 (by omega) (k + 1, chg σ i k) _ (nst_t ha (of_decide_eq_true cq112) cq138) (ls_put hF))
        · refine j_iconst C dX6_least_103 (v := nI 1) (by decide) ?_
          refine j_top C (bI (decide (chg σ i k < a.2))) (by rw [decide_eq_true (by first | omega | (have := ha2.2 cq93; omega))]; rfl) ?_
          refine j_goto C dX6_least_104 (tgt := 108) (by decide) ?_
          refine j_istore C dX6_least_108 (by decide) ?_
          refine j_lv [(0, .ref (G.2.2 84)), (1, .int (nI p)), (2, .int (nI i)), (3, .int (nI j)), (4, .int (nI (4 * i))), (5, .int (lsR a)), (6, .int (nI k)), (7, .int (nI (k / 100))), (8, .int (nI (k / 10 % 10))), (9, .int (nI (k % 10))), (10, .int (nI (chg σ i k))), (11, .int (bI (decide (chg σ i k < a.2))))] rfl ?_
          refine j_iload C dX6_least_110 rfl ?_
          refine j_if_eqB C dX6_least_112 (tgt := 163) (by decide) (fun cq112 => ?_) (fun cq112 => ?_)
          · refine j_iincN C dX6_least_163 rfl (by decide) ?_
            refine j_goto C dX6_least_166 (tgt := 11) (by decide) ?_
            exact j_pick [0, 1, 2, 3, 4, 5, 6] (ih11 (by omega) a M2 (nst_f1 ha (Nat.not_lt.mp (of_decide_eq_false cq112))) hF)
          · refine j_aload_n C dX6_least_115 rfl ?_
            refine j_iload_n C dX6_least_116 rfl ?_
            refine j_aload_n C dX6_least_117 rfl ?_
            refine j_getf C dX6_least_118 rfl (by decide) (T := TX6) rfl in_X6_least_X6 (k := 0) (by decide) fl_X6_least_7 rfl rfl ?_
            refine j_iload_n C dX6_least_121 rfl ?_
            refine j_callS C cm_at dX6_least_122 gX6_least_X6_at rfl ks_X6_at rfl rfl (Nat.le_of_ble_eq_true rfl) ⟨by decide, by decide⟩ ⟨Nat.zero_le _, Nat.zero_le _⟩ (k_I ?_)
            refine j_iconst C dX6_least_125 (v := nI 2) (by decide) ?_
            refine j_iaddN C dX6_least_126 ?_
            refine j_ialdN C dX6_least_127 (show ilen 85 = some 531 from rfl) (by omega) (by decide) ?_
            refine j_top C _ (m_ln hS2 (by omega)) ?_
            refine j_iload C dX6_least_128 rfl ?_
            refine j_iload C dX6_least_130 rfl ?_
            refine j_iload C dX6_least_132 rfl ?_
            refine j_iload_n C dX6_least_134 rfl ?_
            refine j_callV C (cm_tells hS2 hW hp hl (by omega) (by omega) (by omega) hj) dX6_least_135 rfl (by decide) (T := TX6) rfl gX6_least_X6_tells rfl kd_X6_tells rfl rfl (Nat.le_of_ble_eq_true rfl) ⟨by decide, by decide⟩ ⟨Nat.zero_le _, Nat.zero_le _⟩ (k_I ?_)
            refine j_if_eqB C dX6_least_138 (tgt := 163) (by decide) (fun cq138 => ?_) (fun cq138 => ?_)
            · refine j_iincN C dX6_least_163 rfl (by decide) ?_
              refine j_goto C dX6_least_166 (tgt := 11) (by decide) ?_
              exact j_pick [0, 1, 2, 3, 4, 5, 6] (ih11 (by omega) a M2 (nst_f2 ha cq138) hF)
            · refine j_iload C dX6_least_141 rfl ?_
              refine j_istore C dX6_least_143 (by decide) ?_
              refine j_aload_n C dX6_least_145 rfl ?_
              refine j_iload C dX6_least_146 rfl ?_
              refine j_putf C dX6_least_148 rfl (by decide) (T := TX6) rfl in_X6_least_X6 tyX6 tyX6_ok nmX6 (k := 8) (by decide) fl_X6_least_71 rfl rfl (by decide +kernel) (Nat.le_of_ble_eq_true rfl) rfl ?_
              refine j_aload_n C dX6_least_151 rfl ?_
              refine j_iload C dX6_least_152 rfl ?_
              refine j_putf C dX6_least_154 rfl (by decide) (T := TX6) rfl in_X6_least_X6 tyX6 tyX6_ok nmX6 (k := 9) (by decide) fl_X6_least_74 rfl rfl (by decide +kernel) (Nat.le_of_ble_eq_true rfl) rfl ?_
              refine j_aload_n C dX6_least_157 rfl ?_
              refine j_iload C dX6_least_158 rfl ?_
              refine j_putf C dX6_least_160 rfl (by decide) (T := TX6) rfl in_X6_least_X6 tyX6 tyX6_ok nmX6 (k := 10) (by decide) fl_X6_least_77 rfl rfl (by decide +kernel) (Nat.le_of_ble_eq_true rfl) rfl ?_
              refine j_iincN C dX6_least_163 rfl (by decide) ?_
              refine j_goto C dX6_least_166 (tgt := 11) (by decide) ?_
              exact j_pick [0, 1, 2, 3, 4, 5, 6] (ih11 (by omega) (k + 1, chg σ i k) _ (nst_t ha (of_decide_eq_true cq112) cq138) (ls_put hF))
  exact L11 0 (by omega) (0, 28) M rfl ⟨Fr.rf, fun k h => absurd h (by show ¬ 0 = k + 1; omega)⟩
