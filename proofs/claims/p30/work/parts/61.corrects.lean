set_option maxRecDepth 20000 in
theorem ks_L_leastChange : yL_leastChange.cls ≠ "java/lang/invoke/MethodHandle" ∧ yL_leastChange.cls ≠ "java/lang/invoke/VarHandle" ∧ (parseMethodDescriptor yL_leastChange.desc).map (fun d => d.parameters.length) = some 4 := by decide +kernel
set_option maxRecDepth 20000 in
theorem ks_L_hang : yL_hang.cls ≠ "java/lang/invoke/MethodHandle" ∧ yL_hang.cls ≠ "java/lang/invoke/VarHandle" ∧ (parseMethodDescriptor yL_hang.desc).map (fun d => d.parameters.length) = some 3 := by decide +kernel
set_option maxRecDepth 20000 in
theorem ks_L_correct : yL_correct.cls ≠ "java/lang/invoke/MethodHandle" ∧ yL_correct.cls ≠ "java/lang/invoke/VarHandle" ∧ (parseMethodDescriptor yL_correct.desc).map (fun d => d.parameters.length) = some 3 := by decide +kernel
set_option maxRecDepth 20000 in
theorem ks_L_far : yL_far.cls ≠ "java/lang/invoke/MethodHandle" ∧ yL_far.cls ≠ "java/lang/invoke/VarHandle" ∧ (parseMethodDescriptor yL_far.desc).map (fun d => d.parameters.length) = some 2 := by decide +kernel
set_option maxRecDepth 20000 in
theorem ks_L_mix : yL_mix.cls ≠ "java/lang/invoke/MethodHandle" ∧ yL_mix.cls ≠ "java/lang/invoke/VarHandle" ∧ (parseMethodDescriptor yL_mix.desc).map (fun d => d.parameters.length) = some 4 := by decide +kernel
theorem bI_if {c : Prop} (i : Decidable c) : bI (decide c) = nI (if c then 1 else 0) := by
  by_cases h : c
  · rw [decide_eq_true h, if_pos h]; rfl
  · rw [decide_eq_false h, if_neg h]; rfl

set_option maxHeartbeats 4000000 in
set_option maxRecDepth 100000 in
theorem cl_corr_s {l : Launch} {G : GG} {M : MM} {σ : Sg} {n : Nat} (h : Xs M σ n []) {p f g t : Nat} (hp : p < 4) (hf : f < 8) (hg : g < 8) (hne : ¬ f = g) (ht : t < 1000) (h46 : ¬ σ 44 = 6) {k : Nat} (hk : (nst σ p f g 1000).1 = k + 1) : Ct l G yL_corrects wsL_corrects 14 ([.ref (G.2.2 72), .int (nI p), .int (nI f), .int (nI g), .int (nI t)] : List Value) M (fun v9 M9 => v9 = some (.int (bI true)) ∧ ∃ n9, Xs M9 σ n9 []) := by
  have hW := h.wf
  have h44 := hW.2.2.1
  have hn := h.n6
  obtain ⟨hs1, hs2, -⟩ := svN_s hn
  have h6 : σ 44 < 6 := by omega
  obtain ⟨hkk, hss, hll⟩ := hW.2.1 p hp
  obtain ⟨hw1, hw2, hw3, -⟩ := hW.1 f hf
  have hτ : ∀ j, j < 44 → adS σ f g j = σ j := fun j hj => adS_lo h6 hj
  have hz : (nst σ p f g 1000) = nst (adS σ f g) p (adS σ f g (45 + 2 * σ 44)) (adS σ f g (46 + 2 * σ 44)) 1000 := by
    rw [adS_f h6, adS_g h6]
    refine (nst_congr (fun k => ?_) (fun k => ?_) 1000).symm
    · rw [chg_is, chg_is, hτ _ (by omega), hτ _ (by omega), hτ _ (by omega)]
    · exact tl_co hτ hp hg hll
  obtain ⟨hd, ho, hd28⟩ := (nst_in σ p f g 1000).2.2 k hk
  have hap : decide ((nst σ p f g 1000).2 = 0) = ap (adS σ f g) p f g := (nst_iff hW hf hk).trans (ap_co hτ hp hf hg hll).symm
  have h57 := mrG_57 (τ := adS σ f g) (c := σ 44) hk
  have hfar := mrG_far (a := (nst σ p f g 1000)) (c := σ 44) hτ hf (adS_f h6) hk hd
  have hapm := mrG_ap (a := (nst σ p f g 1000)) (c := σ 44) hτ hp hf hg hne hll (adS_f h6) hk hd ho
  have hWm : Wf (mrG (nst σ p f g 1000) (adS σ f g) (σ 44)) := Wf_mrG (Wf_adS hW hf hg) (nst_in _ _ _ _ 1000).1.1 h6
  obtain ⟨hm1, hm2, hm3, -⟩ := hWm.1 f hf
  have hmin : ap (setp (setp (setp (adS σ f g) f 0 (t / 100)) f 1 (t / 10 % 10)) f 2 (t % 10)) p f g = true → (nst σ p f g 1000).2 ≤ chg σ f t := fun q => by
    refine nst_min σ p f g 1000 t ht ?_
    have e : ap (upc (adS σ f g) f (t / 100) (t / 10 % 10) (t % 10)) p f g = okk σ p g t := (ap_upc hp hf hg hne (by rw [hτ _ (by omega)]; exact hll)).trans (tl_co hτ hp hg hll)
    exact e.symm.trans q
  refine Ct.of (cc := cL_corrects) (maxL := 16) (ret := (some .boolean)) (lv := [(0, .ref (G.2.2 72)), (1, .int (nI p)), (2, .int (nI f)), (3, .int (nI g)), (4, .int (nI t))]) (by decide) rfl rfl (Nat.le_of_ble_eq_true rfl) ?_
  intro pg ev sg mm bl mt cd AZ C hret
  refine j_aload_n C dL_corrects_0 rfl ?_
  refine j_iconst C dL_corrects_1 (v := nI 2) (by decide) ?_
  refine j_callSH C (x_ct2 h) dL_corrects_2 gL_corrects_L_count rfl ks_L_count rfl rfl (Nat.le_of_ble_eq_true rfl) ⟨by decide, by decide⟩ ⟨Nat.zero_le _, Nat.zero_le _⟩ (k_I ?_)
  refine j_bipush C dL_corrects_5 (v := nI 6) (by decide) ?_
  refine j_icmp_neN C dL_corrects_7 (tgt := 33) (by decide) (by omega) (by omega) (fun cq7 => ?_) (fun cq7 => absurd cq7 (by omega))
  refine j_aload_n C dL_corrects_33 rfl ?_
  refine j_callS C (cl_print h) dL_corrects_34 gL_corrects_L_print rfl ks_L_print rfl rfl (Nat.le_of_ble_eq_true rfl) ⟨by decide, by decide⟩ ⟨Nat.zero_le _, Nat.zero_le _⟩ (k_L ?_)
  refine j_lstore C dL_corrects_37 (by decide) ?_
  refine j_lv (lv2 := [(0, _), (1, _), (2, _), (3, _), (4, _), (5, _)]) rfl ?_
  refine j_aload_n C dL_corrects_39 rfl ?_
  refine j_iload_n C dL_corrects_40 rfl ?_
  refine j_iconst C dL_corrects_41 (v := nI 0) (by decide) ?_
  refine j_callSH C (x_red h hf) dL_corrects_42 gL_corrects_L_potOf rfl ks_L_potOf rfl rfl (Nat.le_of_ble_eq_true rfl) ⟨by decide, by decide⟩ ⟨Nat.zero_le _, Nat.zero_le _⟩ (k_I ?_)
  refine j_istore C dL_corrects_45 (by decide) ?_
  refine j_lv (lv2 := [(0, _), (1, _), (2, _), (3, _), (4, _), (5, _), (7, _)]) rfl ?_
  refine j_aload_n C dL_corrects_47 rfl ?_
  refine j_iload_n C dL_corrects_48 rfl ?_
  refine j_iconst C dL_corrects_49 (v := nI 1) (by decide) ?_
  refine j_callSH C (x_grn h hf) dL_corrects_50 gL_corrects_L_potOf rfl ks_L_potOf rfl rfl (Nat.le_of_ble_eq_true rfl) ⟨by decide, by decide⟩ ⟨Nat.zero_le _, Nat.zero_le _⟩ (k_I ?_)
  refine j_istore C dL_corrects_53 (by decide) ?_
  refine j_lv (lv2 := [(0, _), (1, _), (2, _), (3, _), (4, _), (5, _), (7, _), (8, _)]) rfl ?_
  refine j_aload_n C dL_corrects_55 rfl ?_
  refine j_iload_n C dL_corrects_56 rfl ?_
  refine j_iconst C dL_corrects_57 (v := nI 2) (by decide) ?_
  refine j_callSH C (x_blu h hf) dL_corrects_58 gL_corrects_L_potOf rfl ks_L_potOf rfl rfl (Nat.le_of_ble_eq_true rfl) ⟨by decide, by decide⟩ ⟨Nat.zero_le _, Nat.zero_le _⟩ (k_I ?_)
  refine j_istore C dL_corrects_61 (by decide) ?_
  refine j_lv (lv2 := [(0, _), (1, _), (2, _), (3, _), (4, _), (5, _), (7, _), (8, _), (9, _)]) rfl ?_
  refine j_aload_n C dL_corrects_63 rfl ?_
  refine j_iload_n C dL_corrects_64 rfl ?_
  refine j_iload_n C dL_corrects_65 rfl ?_
  refine j_iload_n C dL_corrects_66 rfl ?_
  refine j_callSH C (x_lst h rfl hp hf hg hne) dL_corrects_67 gL_corrects_L_leastChange rfl ks_L_leastChange rfl rfl (Nat.le_of_ble_eq_true rfl) ⟨by decide, by decide⟩ ⟨Nat.zero_le _, Nat.zero_le _⟩ (k_I ?_)
  refine j_top C (nI (nst σ p f g 1000).2) (lsR_1 hk) ?_
  refine j_istore C dL_corrects_70 (by decide) ?_
  refine j_lv (lv2 := [(0, _), (1, _), (2, _), (3, _), (4, _), (5, _), (7, _), (8, _), (9, _), (10, _)]) rfl ?_
  refine j_aload_n C dL_corrects_72 rfl ?_
  refine j_iload_n C dL_corrects_73 rfl ?_
  refine j_iload_n C dL_corrects_74 rfl ?_
  refine j_callSH C (x_hng h (Nat.le_of_ble_eq_true rfl) hf hg hne) dL_corrects_75 gL_corrects_L_hang rfl ks_L_hang rfl rfl (Nat.le_of_ble_eq_true rfl) ⟨by decide, by decide⟩ ⟨Nat.zero_le _, Nat.zero_le _⟩ (k_IQ fun M1 h1 => ?_)
  refine j_top C (nI (σ 44)) (if_neg (by omega)) ?_
  refine j_istore C dL_corrects_78 (by decide) ?_
  refine j_lv (lv2 := [(0, _), (1, _), (2, _), (3, _), (4, _), (5, _), (7, _), (8, _), (9, _), (10, _), (11, _)]) rfl ?_
  refine j_aload_n C dL_corrects_80 rfl ?_
  refine j_iconst C dL_corrects_81 (v := nI 5) (by decide) ?_
  refine j_callSH C (x_ct5 h1) dL_corrects_82 gL_corrects_L_count rfl ks_L_count rfl rfl (Nat.le_of_ble_eq_true rfl) ⟨by decide, by decide⟩ ⟨Nat.zero_le _, Nat.zero_le _⟩ (k_I ?_)
  refine j_istore C dL_corrects_85 (by decide) ?_
  refine j_lv (lv2 := [(0, _), (1, _), (2, _), (3, _), (4, _), (5, _), (7, _), (8, _), (9, _), (10, _), (11, _), (12, _)]) rfl ?_
  refine j_cut 97 (decide ((nst σ p f g 1000).2 = 0)) ?_ (fun K97 => ?_)
  · refine j_cut 117 (ap (adS σ f g) p f g) ?_ (fun K117 => ?_)
    · refine j_icmp_ne C dL_corrects_117 (tgt := 157) (by decide) (fun q9 => (q9 (congrArg bI hap)).elim) (fun _ => ?_)
      refine j_aload_n C dL_corrects_120 rfl ?_
      refine j_iload C dL_corrects_121 rfl ?_
      refine j_iload_n C dL_corrects_123 rfl ?_
      refine j_callSH C (x_cor h1 (Nat.le_of_ble_eq_true rfl) hz (by rw [adS_44 h6]; omega) hp) dL_corrects_124 gL_corrects_L_correct rfl ks_L_correct rfl rfl (Nat.le_of_ble_eq_true rfl) ⟨by decide, by decide⟩ ⟨Nat.zero_le _, Nat.zero_le _⟩ (k_IQ fun M2 h2 => ?_)
      refine j_top C (nI (nst σ p f g 1000).2) (lsR_1 hk) ?_
      refine j_iload C dL_corrects_127 rfl ?_
      refine j_icmp_ne C dL_corrects_129 (tgt := 157) (by decide) (fun q9 => (q9 (rfl)).elim) (fun _ => ?_)
      refine j_aload_n C dL_corrects_132 rfl ?_
      refine j_iconst C dL_corrects_133 (v := nI 5) (by decide) ?_
      refine j_callSH C (x_ct5 h2) dL_corrects_134 gL_corrects_L_count rfl ks_L_count rfl rfl (Nat.le_of_ble_eq_true rfl) ⟨by decide, by decide⟩ ⟨Nat.zero_le _, Nat.zero_le _⟩ (k_I ?_)
      refine j_iload C dL_corrects_137 rfl ?_
      refine j_cut 149 (decide (0 < (nst σ p f g 1000).2)) ?_ (fun K149 => ?_)
      · refine j_top C (nI (if 0 < ((nst σ p f g 1000)).2 then 1 else 0)) (bI_if _) ?_
        refine j_iaddN C dL_corrects_149 ?_
        refine j_icmp_ne C dL_corrects_150 (tgt := 157) (by decide) (fun q9 => (q9 (congrArg nI h57)).elim) (fun _ => ?_)
        refine j_iconst C dL_corrects_153 (v := nI 1) (by decide) ?_
        refine j_goto C dL_corrects_154 (tgt := 158) (by decide) ?_
        refine j_istore C dL_corrects_158 (by decide) ?_
        refine j_lv (lv2 := [(0, _), (1, _), (2, _), (3, _), (4, _), (5, _), (7, _), (8, _), (9, _), (10, _), (11, _), (12, _), (13, _)]) rfl ?_
        refine j_bipush C dL_corrects_160 (v := nI 100) (by decide) ?_
        refine j_iload C dL_corrects_162 rfl ?_
        refine j_imulN C dL_corrects_164 ?_
        refine j_bipush C dL_corrects_165 (v := nI 10) (by decide) ?_
        refine j_iload C dL_corrects_167 rfl ?_
        refine j_imulN C dL_corrects_169 ?_
        refine j_iaddN C dL_corrects_170 ?_
        refine j_iload C dL_corrects_171 rfl ?_
        refine j_iaddN C dL_corrects_173 ?_
        refine j_top C (nI (cod (σ (4 * f)) (σ (4 * f + 1)) (σ (4 * f + 2)))) rfl ?_
        refine j_bipush C dL_corrects_174 (v := nI 100) (by decide) ?_
        refine j_aload_n C dL_corrects_176 rfl ?_
        refine j_iload_n C dL_corrects_177 rfl ?_
        refine j_iconst C dL_corrects_178 (v := nI 0) (by decide) ?_
        refine j_callSH C (x_red h2 hf) dL_corrects_179 gL_corrects_L_potOf rfl ks_L_potOf rfl rfl (Nat.le_of_ble_eq_true rfl) ⟨by decide, by decide⟩ ⟨Nat.zero_le _, Nat.zero_le _⟩ (k_I ?_)
        refine j_imulN C dL_corrects_182 ?_
        refine j_bipush C dL_corrects_183 (v := nI 10) (by decide) ?_
        refine j_aload_n C dL_corrects_185 rfl ?_
        refine j_iload_n C dL_corrects_186 rfl ?_
        refine j_iconst C dL_corrects_187 (v := nI 1) (by decide) ?_
        refine j_callSH C (x_grn h2 hf) dL_corrects_188 gL_corrects_L_potOf rfl ks_L_potOf rfl rfl (Nat.le_of_ble_eq_true rfl) ⟨by decide, by decide⟩ ⟨Nat.zero_le _, Nat.zero_le _⟩ (k_I ?_)
        refine j_imulN C dL_corrects_191 ?_
        refine j_iaddN C dL_corrects_192 ?_
        refine j_aload_n C dL_corrects_193 rfl ?_
        refine j_iload_n C dL_corrects_194 rfl ?_
        refine j_iconst C dL_corrects_195 (v := nI 2) (by decide) ?_
        refine j_callSH C (x_blu h2 hf) dL_corrects_196 gL_corrects_L_potOf rfl ks_L_potOf rfl rfl (Nat.le_of_ble_eq_true rfl) ⟨by decide, by decide⟩ ⟨Nat.zero_le _, Nat.zero_le _⟩ (k_I ?_)
        refine j_iaddN C dL_corrects_199 ?_
        refine j_top C (nI (cod ((mrG (nst σ p f g 1000) (adS σ f g) (σ 44)) (4 * f)) ((mrG (nst σ p f g 1000) (adS σ f g) (σ 44)) (4 * f + 1)) ((mrG (nst σ p f g 1000) (adS σ f g) (σ 44)) (4 * f + 2)))) rfl ?_
        refine j_callS C (cl_far hw1 hw2 hw3 hm1 hm2 hm3) dL_corrects_200 gL_corrects_L_far rfl ks_L_far rfl rfl (Nat.le_of_ble_eq_true rfl) ⟨by decide, by decide⟩ ⟨Nat.zero_le _, Nat.zero_le _⟩ (k_I ?_)
        refine j_top C (nI ((nst σ p f g 1000)).2) (congrArg nI hfar) ?_
        refine j_istore C dL_corrects_203 (by decide) ?_
        refine j_lv (lv2 := [(0, _), (1, _), (2, _), (3, _), (4, _), (5, _), (7, _), (8, _), (9, _), (10, _), (11, _), (12, _), (13, _), (14, _)]) rfl ?_
        refine j_iload C dL_corrects_205 rfl ?_
        refine j_if_eqN C dL_corrects_207 (tgt := 252) (by decide) (by omega) (fun cq207 => absurd cq207 (by decide)) (fun cq207 => ?_)
        refine j_iload C dL_corrects_210 rfl ?_
        refine j_if_geN C dL_corrects_212 (tgt := 223) (by decide) (by omega) (fun cq212 => ?_) (fun cq212 => absurd cq212 (by omega))
        refine j_iload C dL_corrects_223 rfl ?_
        refine j_iload C dL_corrects_225 rfl ?_
        refine j_icmp_ne C dL_corrects_227 (tgt := 252) (by decide) (fun q9 => (q9 (rfl)).elim) (fun _ => ?_)
        refine j_aload_n C dL_corrects_230 rfl ?_
        refine j_iload_n C dL_corrects_231 rfl ?_
        refine j_iload_n C dL_corrects_232 rfl ?_
        refine j_iload_n C dL_corrects_233 rfl ?_
        refine j_callSH C (x_ap h2 hp hf hg) dL_corrects_234 gL_corrects_L_apart rfl ks_L_apart rfl rfl (Nat.le_of_ble_eq_true rfl) ⟨by decide, by decide⟩ ⟨Nat.zero_le _, Nat.zero_le _⟩ (k_I ?_)
        refine j_top C (nI 1) (by rw [hapm]; rfl) ?_
        refine j_iconst C dL_corrects_237 (v := nI 1) (by decide) ?_
        refine j_icmp_ne C dL_corrects_238 (tgt := 252) (by decide) (fun q9 => (q9 (rfl)).elim) (fun _ => ?_)
        refine j_aload_n C dL_corrects_241 rfl ?_
        refine j_callSH C (x_und h2) dL_corrects_242 gL_corrects_L_undo rfl ks_L_undo rfl rfl (Nat.le_of_ble_eq_true rfl) ⟨by decide, by decide⟩ ⟨Nat.zero_le _, Nat.zero_le _⟩ (k_IQ fun M3 h3 => ?_)
        have n3 := h3.n6
        refine j_if_ltN C dL_corrects_245 (tgt := 252) (by decide) (by omega) (fun cq245 => absurd cq245 (by omega)) (fun cq245 => ?_)
        refine j_iconst C dL_corrects_248 (v := nI 1) (by decide) ?_
        refine j_goto C dL_corrects_249 (tgt := 253) (by decide) ?_
        refine j_istore C dL_corrects_253 (by decide) ?_
        refine j_lv (lv2 := [(0, _), (1, _), (2, _), (3, _), (4, _), (5, _), (7, _), (8, _), (9, _), (10, _), (11, _), (12, _), (13, _), (14, _)]) rfl ?_
        refine j_iload C dL_corrects_255 rfl ?_
        refine j_if_eqN C dL_corrects_257 (tgt := 315) (by decide) (by omega) (fun cq257 => absurd cq257 (by decide)) (fun cq257 => ?_)
        refine j_aload_n C dL_corrects_260 rfl ?_
        refine j_iload_n C dL_corrects_261 rfl ?_
        refine j_iconst C dL_corrects_262 (v := nI 0) (by decide) ?_
        refine j_iload C dL_corrects_263 rfl ?_
        refine j_bipush C dL_corrects_265 (v := nI 100) (by decide) ?_
        refine j_idivN C dL_corrects_267 (by omega) (by decide) (by decide) ?_
        refine j_callSH C (x_mix h3 (Nat.le_of_ble_eq_true rfl) hf (by decide) (by omega)) dL_corrects_268 gL_corrects_L_mix rfl ks_L_mix rfl rfl (Nat.le_of_ble_eq_true rfl) ⟨by decide, by decide⟩ ⟨Nat.zero_le _, Nat.zero_le _⟩ (k_IQ fun M4 h4 => ?_)
        refine j_top C (nI (σ (4 * f))) (congrArg nI (hτ _ (by omega))) ?_
        have n4 := h4.n6
        refine j_iload C dL_corrects_271 rfl ?_
        refine j_icmp_ne C dL_corrects_273 (tgt := 315) (by decide) (fun q9 => (q9 (rfl)).elim) (fun _ => ?_)
        refine j_aload_n C dL_corrects_276 rfl ?_
        refine j_iload_n C dL_corrects_277 rfl ?_
        refine j_iconst C dL_corrects_278 (v := nI 1) (by decide) ?_
        refine j_iload C dL_corrects_279 rfl ?_
        refine j_bipush C dL_corrects_281 (v := nI 10) (by decide) ?_
        refine j_idivN C dL_corrects_283 (by omega) (by decide) (by decide) ?_
        refine j_bipush C dL_corrects_284 (v := nI 10) (by decide) ?_
        refine j_iremN C dL_corrects_286 (by omega) (by decide) (by decide) ?_
        refine j_callSH C (x_mix h4 (Nat.le_of_ble_eq_true rfl) hf (by decide) (by omega)) dL_corrects_287 gL_corrects_L_mix rfl ks_L_mix rfl rfl (Nat.le_of_ble_eq_true rfl) ⟨by decide, by decide⟩ ⟨Nat.zero_le _, Nat.zero_le _⟩ (k_IQ fun M5 h5 => ?_)
        refine j_top C (nI (σ (4 * f + 1))) (congrArg nI ((upS_ne (by omega)).trans (hτ _ (by omega)))) ?_
        have n5 := h5.n6
        refine j_iload C dL_corrects_290 rfl ?_
        refine j_icmp_ne C dL_corrects_292 (tgt := 315) (by decide) (fun q9 => (q9 (rfl)).elim) (fun _ => ?_)
        refine j_aload_n C dL_corrects_295 rfl ?_
        refine j_iload_n C dL_corrects_296 rfl ?_
        refine j_iconst C dL_corrects_297 (v := nI 2) (by decide) ?_
        refine j_iload C dL_corrects_298 rfl ?_
        refine j_bipush C dL_corrects_300 (v := nI 10) (by decide) ?_
        refine j_iremN C dL_corrects_302 (by omega) (by decide) (by decide) ?_
        refine j_callSH C (x_mix h5 (Nat.le_of_ble_eq_true rfl) hf (by decide) (by omega)) dL_corrects_303 gL_corrects_L_mix rfl ks_L_mix rfl rfl (Nat.le_of_ble_eq_true rfl) ⟨by decide, by decide⟩ ⟨Nat.zero_le _, Nat.zero_le _⟩ (k_IQ fun M6 h6x => ?_)
        refine j_top C (nI (σ (4 * f + 2))) (congrArg nI (((upS_ne (by omega)).trans (upS_ne (by omega))).trans (hτ _ (by omega)))) ?_
        have n6 := h6x.n6
        refine j_iload C dL_corrects_306 rfl ?_
        refine j_icmp_ne C dL_corrects_308 (tgt := 315) (by decide) (fun q9 => (q9 (rfl)).elim) (fun _ => ?_)
        refine j_iconst C dL_corrects_311 (v := nI 1) (by decide) ?_
        refine j_goto C dL_corrects_312 (tgt := 316) (by decide) ?_
        refine j_istore C dL_corrects_316 (by decide) ?_
        refine j_lv (lv2 := [(0, _), (1, _), (2, _), (3, _), (4, _), (5, _), (7, _), (8, _), (9, _), (10, _), (11, _), (12, _), (13, _), (14, _)]) rfl ?_
        refine j_bipush C dL_corrects_318 (v := nI 100) (by decide) ?_
        refine j_iload C dL_corrects_320 rfl ?_
        refine j_imulN C dL_corrects_322 ?_
        refine j_bipush C dL_corrects_323 (v := nI 10) (by decide) ?_
        refine j_iload C dL_corrects_325 rfl ?_
        refine j_imulN C dL_corrects_327 ?_
        refine j_iaddN C dL_corrects_328 ?_
        refine j_iload C dL_corrects_329 rfl ?_
        refine j_iaddN C dL_corrects_331 ?_
        refine j_top C (nI (cod (σ (4 * f)) (σ (4 * f + 1)) (σ (4 * f + 2)))) rfl ?_
        refine j_iload C dL_corrects_332 rfl ?_
        refine j_top C (nI (cod (t / 100) (t / 10 % 10) (t % 10))) (congrArg nI (cod_dig ht)) ?_
        refine j_callS C (cl_far hw1 hw2 hw3 (by omega) (by omega) (by omega)) dL_corrects_334 gL_corrects_L_far rfl ks_L_far rfl rfl (Nat.le_of_ble_eq_true rfl) ⟨by decide, by decide⟩ ⟨Nat.zero_le _, Nat.zero_le _⟩ (k_I ?_)
        refine j_top C (nI (chg σ f t)) rfl ?_
        refine j_istore C dL_corrects_337 (by decide) ?_
        refine j_lv (lv2 := [(0, _), (1, _), (2, _), (3, _), (4, _), (5, _), (7, _), (8, _), (9, _), (10, _), (11, _), (12, _), (13, _), (14, _), (15, _)]) rfl ?_
        refine j_iload C dL_corrects_339 rfl ?_
        refine j_if_eqN C dL_corrects_341 (tgt := 370) (by decide) (by omega) (fun cq341 => absurd cq341 (by decide)) (fun cq341 => ?_)
        refine j_aload_n C dL_corrects_344 rfl ?_
        refine j_iload_n C dL_corrects_345 rfl ?_
        refine j_iload_n C dL_corrects_346 rfl ?_
        refine j_iload_n C dL_corrects_347 rfl ?_
        refine j_callSH C (x_ap h6x hp hf hg) dL_corrects_348 gL_corrects_L_apart rfl ks_L_apart rfl rfl (Nat.le_of_ble_eq_true rfl) ⟨by decide, by decide⟩ ⟨Nat.zero_le _, Nat.zero_le _⟩ (k_I ?_)
        have hch := chg_27 hW (f := f) hf ht
        refine j_if_eqB C dL_corrects_351 (tgt := 366) (by decide) (fun cq351 => ?_) (fun cq351 => ?_)
        · refine j_iconst C dL_corrects_366 (v := nI 1) (by decide) ?_
          refine j_goto C dL_corrects_367 (tgt := 371) (by decide) ?_
          refine j_istore C dL_corrects_371 (by decide) ?_
          refine j_lv (lv2 := [(0, _), (1, _), (2, _), (3, _), (4, _), (5, _), (7, _), (8, _), (9, _), (10, _), (11, _), (12, _), (13, _), (14, _), (15, _)]) rfl ?_
          refine j_iload C dL_corrects_373 rfl ?_
          refine j_if_eqN C dL_corrects_375 (tgt := 420) (by decide) (by omega) (fun cq375 => absurd cq375 (by decide)) (fun cq375 => ?_)
          refine j_aload_n C dL_corrects_378 rfl ?_
          refine j_callSH C (x_und h6x) dL_corrects_379 gL_corrects_L_undo rfl ks_L_undo rfl rfl (Nat.le_of_ble_eq_true rfl) ⟨by decide, by decide⟩ ⟨Nat.zero_le _, Nat.zero_le _⟩ (k_IQ fun M7 h7 => ?_)
          have n7 := h7.n6
          refine j_if_ltN C dL_corrects_382 (tgt := 420) (by decide) (by omega) (fun cq382 => absurd cq382 (by omega)) (fun cq382 => ?_)
          refine j_aload_n C dL_corrects_385 rfl ?_
          refine j_callSH C (x_und h7) dL_corrects_386 gL_corrects_L_undo rfl ks_L_undo rfl rfl (Nat.le_of_ble_eq_true rfl) ⟨by decide, by decide⟩ ⟨Nat.zero_le _, Nat.zero_le _⟩ (k_IQ fun M8 h8 => ?_)
          have n8 := h8.n6
          refine j_if_ltN C dL_corrects_389 (tgt := 420) (by decide) (by omega) (fun cq389 => absurd cq389 (by omega)) (fun cq389 => ?_)
          refine j_aload_n C dL_corrects_392 rfl ?_
          refine j_callSH C (x_und h8) dL_corrects_393 gL_corrects_L_undo rfl ks_L_undo rfl rfl (Nat.le_of_ble_eq_true rfl) ⟨by decide, by decide⟩ ⟨Nat.zero_le _, Nat.zero_le _⟩ (k_IQ fun M9 h9 => ?_)
          have n9 := h9.n6
          refine j_if_ltN C dL_corrects_396 (tgt := 420) (by decide) (by omega) (fun cq396 => absurd cq396 (by omega)) (fun cq396 => ?_)
          refine j_aload_n C dL_corrects_399 rfl ?_
          refine j_callSH C (x_und h9) dL_corrects_400 gL_corrects_L_undo rfl ks_L_undo rfl rfl (Nat.le_of_ble_eq_true rfl) ⟨by decide, by decide⟩ ⟨Nat.zero_le _, Nat.zero_le _⟩ (k_IQ fun M10 h10 => ?_)
          have n10 := h10.n6
          refine j_if_ltN C dL_corrects_403 (tgt := 420) (by decide) (by omega) (fun cq403 => absurd cq403 (by omega)) (fun cq403 => ?_)
          refine j_aload_n C dL_corrects_406 rfl ?_
          refine j_callS C (cl_print h10) dL_corrects_407 gL_corrects_L_print rfl ks_L_print rfl rfl (Nat.le_of_ble_eq_true rfl) ⟨by decide, by decide⟩ ⟨Nat.zero_le _, Nat.zero_le _⟩ (k_L ?_)
          refine j_lload C dL_corrects_410 rfl ?_
          refine j_lcmp C dL_corrects_412 ?_
          refine j_top C (nI 0) (lg_self _) ?_
          refine j_if_neN C dL_corrects_413 (tgt := 420) (by decide) (by omega) (fun cq413 => absurd cq413 (by decide)) (fun cq413 => ?_)
          refine j_iconst C dL_corrects_416 (v := nI 1) (by decide) ?_
          refine j_goto C dL_corrects_417 (tgt := 421) (by decide) ?_
          refine j_top C (bI true) rfl ?_
          exact j_zreturn C hret dL_corrects_421 ⟨rfl, _, h10⟩
        · refine j_iload C dL_corrects_354 rfl ?_
          refine j_if_ltN C dL_corrects_356 (tgt := 370) (by decide) (by omega) (fun cq356 => absurd cq356 (by omega)) (fun cq356 => ?_)
          refine j_iload C dL_corrects_359 rfl ?_
          refine j_iload C dL_corrects_361 rfl ?_
          refine j_icmp_ltN C dL_corrects_363 (tgt := 370) (by decide) (by omega) (by omega) (fun cq363 => absurd cq363 (Nat.not_lt.mpr (hmin cq351))) (fun cq363 => ?_)
          refine j_iconst C dL_corrects_366 (v := nI 1) (by decide) ?_
          refine j_goto C dL_corrects_367 (tgt := 371) (by decide) ?_
          refine j_istore C dL_corrects_371 (by decide) ?_
          refine j_lv (lv2 := [(0, _), (1, _), (2, _), (3, _), (4, _), (5, _), (7, _), (8, _), (9, _), (10, _), (11, _), (12, _), (13, _), (14, _), (15, _)]) rfl ?_
          refine j_iload C dL_corrects_373 rfl ?_
          refine j_if_eqN C dL_corrects_375 (tgt := 420) (by decide) (by omega) (fun cq375 => absurd cq375 (by decide)) (fun cq375 => ?_)
          refine j_aload_n C dL_corrects_378 rfl ?_
          refine j_callSH C (x_und h6x) dL_corrects_379 gL_corrects_L_undo rfl ks_L_undo rfl rfl (Nat.le_of_ble_eq_true rfl) ⟨by decide, by decide⟩ ⟨Nat.zero_le _, Nat.zero_le _⟩ (k_IQ fun M7 h7 => ?_)
          have n7 := h7.n6
          refine j_if_ltN C dL_corrects_382 (tgt := 420) (by decide) (by omega) (fun cq382 => absurd cq382 (by omega)) (fun cq382 => ?_)
          refine j_aload_n C dL_corrects_385 rfl ?_
          refine j_callSH C (x_und h7) dL_corrects_386 gL_corrects_L_undo rfl ks_L_undo rfl rfl (Nat.le_of_ble_eq_true rfl) ⟨by decide, by decide⟩ ⟨Nat.zero_le _, Nat.zero_le _⟩ (k_IQ fun M8 h8 => ?_)
          have n8 := h8.n6
          refine j_if_ltN C dL_corrects_389 (tgt := 420) (by decide) (by omega) (fun cq389 => absurd cq389 (by omega)) (fun cq389 => ?_)
          refine j_aload_n C dL_corrects_392 rfl ?_
          refine j_callSH C (x_und h8) dL_corrects_393 gL_corrects_L_undo rfl ks_L_undo rfl rfl (Nat.le_of_ble_eq_true rfl) ⟨by decide, by decide⟩ ⟨Nat.zero_le _, Nat.zero_le _⟩ (k_IQ fun M9 h9 => ?_)
          have n9 := h9.n6
          refine j_if_ltN C dL_corrects_396 (tgt := 420) (by decide) (by omega) (fun cq396 => absurd cq396 (by omega)) (fun cq396 => ?_)
          refine j_aload_n C dL_corrects_399 rfl ?_
          refine j_callSH C (x_und h9) dL_corrects_400 gL_corrects_L_undo rfl ks_L_undo rfl rfl (Nat.le_of_ble_eq_true rfl) ⟨by decide, by decide⟩ ⟨Nat.zero_le _, Nat.zero_le _⟩ (k_IQ fun M10 h10 => ?_)
          have n10 := h10.n6
          refine j_if_ltN C dL_corrects_403 (tgt := 420) (by decide) (by omega) (fun cq403 => absurd cq403 (by omega)) (fun cq403 => ?_)
          refine j_aload_n C dL_corrects_406 rfl ?_
          refine j_callS C (cl_print h10) dL_corrects_407 gL_corrects_L_print rfl ks_L_print rfl rfl (Nat.le_of_ble_eq_true rfl) ⟨by decide, by decide⟩ ⟨Nat.zero_le _, Nat.zero_le _⟩ (k_L ?_)
          refine j_lload C dL_corrects_410 rfl ?_
          refine j_lcmp C dL_corrects_412 ?_
          refine j_top C (nI 0) (lg_self _) ?_
          refine j_if_neN C dL_corrects_413 (tgt := 420) (by decide) (by omega) (fun cq413 => absurd cq413 (by decide)) (fun cq413 => ?_)
          refine j_iconst C dL_corrects_416 (v := nI 1) (by decide) ?_
          refine j_goto C dL_corrects_417 (tgt := 421) (by decide) ?_
          refine j_top C (bI true) rfl ?_
          exact j_zreturn C hret dL_corrects_421 ⟨rfl, _, h10⟩
      · refine j_iload C dL_corrects_139 rfl ?_
        refine j_if_leN C dL_corrects_141 (tgt := 148) (by decide) (by omega) (fun cq141 => ?_) (fun cq141 => ?_)
        · refine j_iconst C dL_corrects_148 (v := nI 0) (by decide) ?_
          exact j_join (decide (0 < (nst σ p f g 1000).2)) K149 (bI_f (Nat.not_lt.mpr cq141))
        · refine j_iconst C dL_corrects_144 (v := nI 1) (by decide) ?_
          refine j_goto C dL_corrects_145 (tgt := 149) (by decide) ?_
          exact j_join (decide (0 < (nst σ p f g 1000).2)) K149 (bI_t cq141)
    · refine j_aload_n C dL_corrects_97 rfl ?_
      refine j_iload C dL_corrects_98 rfl ?_
      refine j_iconst C dL_corrects_100 (v := nI 2) (by decide) ?_
      refine j_callSH C (x_chr h1 (by rw [adS_44 h6]; omega)) dL_corrects_101 gL_corrects_L_chartOf rfl ks_L_chartOf rfl rfl (Nat.le_of_ble_eq_true rfl) ⟨by decide, by decide⟩ ⟨Nat.zero_le _, Nat.zero_le _⟩ (k_I ?_)
      refine j_top C (nI (tpm (adS σ f g) f g)) (by unfold rdm; rw [adS_f h6, adS_g h6]) ?_
      refine j_iload_n C dL_corrects_104 rfl ?_
      refine j_ishr C dL_corrects_105 ?_
      refine j_iconst C dL_corrects_106 (v := nI 1) (by decide) ?_
      refine j_iand C dL_corrects_107 ?_
      refine j_top C (bI (ap (adS σ f g) p f g)) (tpm_I hp) ?_
      refine j_iconst C dL_corrects_108 (v := nI 1) (by decide) ?_
      refine j_icmp_ne C dL_corrects_109 (tgt := 116) (by decide) (fun cq109 => ?_) (fun cq109 => ?_)
      · refine j_iconst C dL_corrects_116 (v := nI 0) (by decide) ?_
        exact j_join (ap (adS σ f g) p f g) K117 (by rw [bI_n1 cq109]; rfl)
      · refine j_iconst C dL_corrects_112 (v := nI 1) (by decide) ?_
        refine j_goto C dL_corrects_113 (tgt := 117) (by decide) ?_
        exact j_join (ap (adS σ f g) p f g) K117 (by rw [bI_1.mp cq109]; rfl)
  · refine j_iload C dL_corrects_87 rfl ?_
    refine j_if_neN C dL_corrects_89 (tgt := 96) (by decide) (by omega) (fun cq89 => ?_) (fun cq89 => ?_)
    · refine j_iconst C dL_corrects_96 (v := nI 0) (by decide) ?_
      exact j_join (decide ((nst σ p f g 1000).2 = 0)) K97 (bI_f cq89)
    · refine j_iconst C dL_corrects_92 (v := nI 1) (by decide) ?_
      refine j_goto C dL_corrects_93 (tgt := 97) (by decide) ?_
      exact j_join (decide ((nst σ p f g 1000).2 = 0)) K97 (bI_t cq89)

set_option maxHeartbeats 4000000 in
set_option maxRecDepth 100000 in
theorem cl_corr_n {l : Launch} {G : GG} {M : MM} {σ : Sg} {n : Nat} (h : Xs M σ n []) {p f g t : Nat} (hp : p < 4) (hf : f < 8) (hg : g < 8) (hne : ¬ f = g) (ht : t < 1000) (h46 : ¬ σ 44 = 6) (h0 : (nst σ p f g 1000).1 = 0) : Ct l G yL_corrects wsL_corrects 14 ([.ref (G.2.2 72), .int (nI p), .int (nI f), .int (nI g), .int (nI t)] : List Value) M (fun v9 M9 => v9 = some (.int (bI true)) ∧ ∃ n9, Xs M9 σ n9 []) := by
  have hW := h.wf
  have h44 := hW.2.2.1
  have hn := h.n6
  obtain ⟨hs1, hs2, -⟩ := svN_s hn
  have h6 : σ 44 < 6 := by omega
  obtain ⟨hkk, hss, hll⟩ := hW.2.1 p hp
  obtain ⟨hw1, hw2, hw3, -⟩ := hW.1 f hf
  have hτ : ∀ j, j < 44 → adS σ f g j = σ j := fun j hj => adS_lo h6 hj
  have hz : (nst σ p f g 1000) = nst (adS σ f g) p (adS σ f g (45 + 2 * σ 44)) (adS σ f g (46 + 2 * σ 44)) 1000 := by
    rw [adS_f h6, adS_g h6]
    refine (nst_congr (fun k => ?_) (fun k => ?_) 1000).symm
    · rw [chg_is, chg_is, hτ _ (by omega), hτ _ (by omega), hτ _ (by omega)]
    · exact tl_co hτ hp hg hll
  have hap : false = ap (adS σ f g) p f g := by
    rw [ap_co hτ hp hf hg hll]
    cases hA : ap σ p f g with
    | false => rfl
    | true =>
      have h1 := nst_own hW (g := g) hf hA
      have h2 := (nst_in σ p f g 1000).2.1 h0
      omega
  have hmu : mrG (nst σ p f g 1000) (adS σ f g) (σ 44) = upS (adS σ f g) 58 (adS σ f g 58 + 1) := mrS_0 h0
  have h57 : (mrG (nst σ p f g 1000) (adS σ f g) (σ 44)) 57 = adS σ f g 57 + 0 := by rw [hmu, upS_ne (by decide)]; rfl
  have hμ : ∀ j, j < 44 → (mrG (nst σ p f g 1000) (adS σ f g) (σ 44)) j = σ j := fun j hj => by rw [hmu, upS_ne (by omega)]; exact hτ j hj
  have hfar : ad (σ (4 * f)) ((mrG (nst σ p f g 1000) (adS σ f g) (σ 44)) (4 * f)) + ad (σ (4 * f + 1)) ((mrG (nst σ p f g 1000) (adS σ f g) (σ 44)) (4 * f + 1)) + ad (σ (4 * f + 2)) ((mrG (nst σ p f g 1000) (adS σ f g) (σ 44)) (4 * f + 2)) = 0 := by
    rw [hμ _ (by omega), hμ _ (by omega), hμ _ (by omega), ad_s, ad_s, ad_s]
  have hWm : Wf (mrG (nst σ p f g 1000) (adS σ f g) (σ 44)) := Wf_mrG (Wf_adS hW hf hg) (nst_in _ _ _ _ 1000).1.1 h6
  obtain ⟨hm1, hm2, hm3, -⟩ := hWm.1 f hf
  have hapt : ap (setp (setp (setp (adS σ f g) f 0 (t / 100)) f 1 (t / 10 % 10)) f 2 (t % 10)) p f g = false := by
    have e : ap (upc (adS σ f g) f (t / 100) (t / 10 % 10) (t % 10)) p f g = okk σ p g t := (ap_upc hp hf hg hne (by rw [hτ _ (by omega)]; exact hll)).trans (tl_co hτ hp hg hll)
    exact e.trans (nst_none h0 ht (chg_27 hW hf ht))
  refine Ct.of (cc := cL_corrects) (maxL := 16) (ret := (some .boolean)) (lv := [(0, .ref (G.2.2 72)), (1, .int (nI p)), (2, .int (nI f)), (3, .int (nI g)), (4, .int (nI t))]) (by decide) rfl rfl (Nat.le_of_ble_eq_true rfl) ?_
  intro pg ev sg mm bl mt cd AZ C hret
  refine j_aload_n C dL_corrects_0 rfl ?_
  refine j_iconst C dL_corrects_1 (v := nI 2) (by decide) ?_
  refine j_callSH C (x_ct2 h) dL_corrects_2 gL_corrects_L_count rfl ks_L_count rfl rfl (Nat.le_of_ble_eq_true rfl) ⟨by decide, by decide⟩ ⟨Nat.zero_le _, Nat.zero_le _⟩ (k_I ?_)
  refine j_bipush C dL_corrects_5 (v := nI 6) (by decide) ?_
  refine j_icmp_neN C dL_corrects_7 (tgt := 33) (by decide) (by omega) (by omega) (fun cq7 => ?_) (fun cq7 => absurd cq7 (by omega))
  refine j_aload_n C dL_corrects_33 rfl ?_
  refine j_callS C (cl_print h) dL_corrects_34 gL_corrects_L_print rfl ks_L_print rfl rfl (Nat.le_of_ble_eq_true rfl) ⟨by decide, by decide⟩ ⟨Nat.zero_le _, Nat.zero_le _⟩ (k_L ?_)
  refine j_lstore C dL_corrects_37 (by decide) ?_
  refine j_lv (lv2 := [(0, _), (1, _), (2, _), (3, _), (4, _), (5, _)]) rfl ?_
  refine j_aload_n C dL_corrects_39 rfl ?_
  refine j_iload_n C dL_corrects_40 rfl ?_
  refine j_iconst C dL_corrects_41 (v := nI 0) (by decide) ?_
  refine j_callSH C (x_red h hf) dL_corrects_42 gL_corrects_L_potOf rfl ks_L_potOf rfl rfl (Nat.le_of_ble_eq_true rfl) ⟨by decide, by decide⟩ ⟨Nat.zero_le _, Nat.zero_le _⟩ (k_I ?_)
  refine j_istore C dL_corrects_45 (by decide) ?_
  refine j_lv (lv2 := [(0, _), (1, _), (2, _), (3, _), (4, _), (5, _), (7, _)]) rfl ?_
  refine j_aload_n C dL_corrects_47 rfl ?_
  refine j_iload_n C dL_corrects_48 rfl ?_
  refine j_iconst C dL_corrects_49 (v := nI 1) (by decide) ?_
  refine j_callSH C (x_grn h hf) dL_corrects_50 gL_corrects_L_potOf rfl ks_L_potOf rfl rfl (Nat.le_of_ble_eq_true rfl) ⟨by decide, by decide⟩ ⟨Nat.zero_le _, Nat.zero_le _⟩ (k_I ?_)
  refine j_istore C dL_corrects_53 (by decide) ?_
  refine j_lv (lv2 := [(0, _), (1, _), (2, _), (3, _), (4, _), (5, _), (7, _), (8, _)]) rfl ?_
  refine j_aload_n C dL_corrects_55 rfl ?_
  refine j_iload_n C dL_corrects_56 rfl ?_
  refine j_iconst C dL_corrects_57 (v := nI 2) (by decide) ?_
  refine j_callSH C (x_blu h hf) dL_corrects_58 gL_corrects_L_potOf rfl ks_L_potOf rfl rfl (Nat.le_of_ble_eq_true rfl) ⟨by decide, by decide⟩ ⟨Nat.zero_le _, Nat.zero_le _⟩ (k_I ?_)
  refine j_istore C dL_corrects_61 (by decide) ?_
  refine j_lv (lv2 := [(0, _), (1, _), (2, _), (3, _), (4, _), (5, _), (7, _), (8, _), (9, _)]) rfl ?_
  refine j_aload_n C dL_corrects_63 rfl ?_
  refine j_iload_n C dL_corrects_64 rfl ?_
  refine j_iload_n C dL_corrects_65 rfl ?_
  refine j_iload_n C dL_corrects_66 rfl ?_
  refine j_callSH C (x_lst h rfl hp hf hg hne) dL_corrects_67 gL_corrects_L_leastChange rfl ks_L_leastChange rfl rfl (Nat.le_of_ble_eq_true rfl) ⟨by decide, by decide⟩ ⟨Nat.zero_le _, Nat.zero_le _⟩ (k_I ?_)
  refine j_top C (-1) (lsR_0 h0) ?_
  refine j_istore C dL_corrects_70 (by decide) ?_
  refine j_lv (lv2 := [(0, _), (1, _), (2, _), (3, _), (4, _), (5, _), (7, _), (8, _), (9, _), (10, _)]) rfl ?_
  refine j_aload_n C dL_corrects_72 rfl ?_
  refine j_iload_n C dL_corrects_73 rfl ?_
  refine j_iload_n C dL_corrects_74 rfl ?_
  refine j_callSH C (x_hng h (Nat.le_of_ble_eq_true rfl) hf hg hne) dL_corrects_75 gL_corrects_L_hang rfl ks_L_hang rfl rfl (Nat.le_of_ble_eq_true rfl) ⟨by decide, by decide⟩ ⟨Nat.zero_le _, Nat.zero_le _⟩ (k_IQ fun M1 h1 => ?_)
  refine j_top C (nI (σ 44)) (if_neg (by omega)) ?_
  refine j_istore C dL_corrects_78 (by decide) ?_
  refine j_lv (lv2 := [(0, _), (1, _), (2, _), (3, _), (4, _), (5, _), (7, _), (8, _), (9, _), (10, _), (11, _)]) rfl ?_
  refine j_aload_n C dL_corrects_80 rfl ?_
  refine j_iconst C dL_corrects_81 (v := nI 5) (by decide) ?_
  refine j_callSH C (x_ct5 h1) dL_corrects_82 gL_corrects_L_count rfl ks_L_count rfl rfl (Nat.le_of_ble_eq_true rfl) ⟨by decide, by decide⟩ ⟨Nat.zero_le _, Nat.zero_le _⟩ (k_I ?_)
  refine j_istore C dL_corrects_85 (by decide) ?_
  refine j_lv (lv2 := [(0, _), (1, _), (2, _), (3, _), (4, _), (5, _), (7, _), (8, _), (9, _), (10, _), (11, _), (12, _)]) rfl ?_
  refine j_cut 97 (false) ?_ (fun K97 => ?_)
  · refine j_cut 117 (ap (adS σ f g) p f g) ?_ (fun K117 => ?_)
    · refine j_icmp_ne C dL_corrects_117 (tgt := 157) (by decide) (fun q9 => (q9 (congrArg bI hap)).elim) (fun _ => ?_)
      refine j_aload_n C dL_corrects_120 rfl ?_
      refine j_iload C dL_corrects_121 rfl ?_
      refine j_iload_n C dL_corrects_123 rfl ?_
      refine j_callSH C (x_cor h1 (Nat.le_of_ble_eq_true rfl) hz (by rw [adS_44 h6]; omega) hp) dL_corrects_124 gL_corrects_L_correct rfl ks_L_correct rfl rfl (Nat.le_of_ble_eq_true rfl) ⟨by decide, by decide⟩ ⟨Nat.zero_le _, Nat.zero_le _⟩ (k_IQ fun M2 h2 => ?_)
      refine j_top C (-1) (lsR_0 h0) ?_
      refine j_iload C dL_corrects_127 rfl ?_
      refine j_icmp_ne C dL_corrects_129 (tgt := 157) (by decide) (fun q9 => (q9 (rfl)).elim) (fun _ => ?_)
      refine j_aload_n C dL_corrects_132 rfl ?_
      refine j_iconst C dL_corrects_133 (v := nI 5) (by decide) ?_
      refine j_callSH C (x_ct5 h2) dL_corrects_134 gL_corrects_L_count rfl ks_L_count rfl rfl (Nat.le_of_ble_eq_true rfl) ⟨by decide, by decide⟩ ⟨Nat.zero_le _, Nat.zero_le _⟩ (k_I ?_)
      refine j_iload C dL_corrects_137 rfl ?_
      refine j_cut 149 (false) ?_ (fun K149 => ?_)
      · refine j_top C (nI 0) rfl ?_
        refine j_iaddN C dL_corrects_149 ?_
        refine j_icmp_ne C dL_corrects_150 (tgt := 157) (by decide) (fun q9 => (q9 (congrArg nI h57)).elim) (fun _ => ?_)
        refine j_iconst C dL_corrects_153 (v := nI 1) (by decide) ?_
        refine j_goto C dL_corrects_154 (tgt := 158) (by decide) ?_
        refine j_istore C dL_corrects_158 (by decide) ?_
        refine j_lv (lv2 := [(0, _), (1, _), (2, _), (3, _), (4, _), (5, _), (7, _), (8, _), (9, _), (10, _), (11, _), (12, _), (13, _)]) rfl ?_
        refine j_bipush C dL_corrects_160 (v := nI 100) (by decide) ?_
        refine j_iload C dL_corrects_162 rfl ?_
        refine j_imulN C dL_corrects_164 ?_
        refine j_bipush C dL_corrects_165 (v := nI 10) (by decide) ?_
        refine j_iload C dL_corrects_167 rfl ?_
        refine j_imulN C dL_corrects_169 ?_
        refine j_iaddN C dL_corrects_170 ?_
        refine j_iload C dL_corrects_171 rfl ?_
        refine j_iaddN C dL_corrects_173 ?_
        refine j_top C (nI (cod (σ (4 * f)) (σ (4 * f + 1)) (σ (4 * f + 2)))) rfl ?_
        refine j_bipush C dL_corrects_174 (v := nI 100) (by decide) ?_
        refine j_aload_n C dL_corrects_176 rfl ?_
        refine j_iload_n C dL_corrects_177 rfl ?_
        refine j_iconst C dL_corrects_178 (v := nI 0) (by decide) ?_
        refine j_callSH C (x_red h2 hf) dL_corrects_179 gL_corrects_L_potOf rfl ks_L_potOf rfl rfl (Nat.le_of_ble_eq_true rfl) ⟨by decide, by decide⟩ ⟨Nat.zero_le _, Nat.zero_le _⟩ (k_I ?_)
        refine j_imulN C dL_corrects_182 ?_
        refine j_bipush C dL_corrects_183 (v := nI 10) (by decide) ?_
        refine j_aload_n C dL_corrects_185 rfl ?_
        refine j_iload_n C dL_corrects_186 rfl ?_
        refine j_iconst C dL_corrects_187 (v := nI 1) (by decide) ?_
        refine j_callSH C (x_grn h2 hf) dL_corrects_188 gL_corrects_L_potOf rfl ks_L_potOf rfl rfl (Nat.le_of_ble_eq_true rfl) ⟨by decide, by decide⟩ ⟨Nat.zero_le _, Nat.zero_le _⟩ (k_I ?_)
        refine j_imulN C dL_corrects_191 ?_
        refine j_iaddN C dL_corrects_192 ?_
        refine j_aload_n C dL_corrects_193 rfl ?_
        refine j_iload_n C dL_corrects_194 rfl ?_
        refine j_iconst C dL_corrects_195 (v := nI 2) (by decide) ?_
        refine j_callSH C (x_blu h2 hf) dL_corrects_196 gL_corrects_L_potOf rfl ks_L_potOf rfl rfl (Nat.le_of_ble_eq_true rfl) ⟨by decide, by decide⟩ ⟨Nat.zero_le _, Nat.zero_le _⟩ (k_I ?_)
        refine j_iaddN C dL_corrects_199 ?_
        refine j_top C (nI (cod ((mrG (nst σ p f g 1000) (adS σ f g) (σ 44)) (4 * f)) ((mrG (nst σ p f g 1000) (adS σ f g) (σ 44)) (4 * f + 1)) ((mrG (nst σ p f g 1000) (adS σ f g) (σ 44)) (4 * f + 2)))) rfl ?_
        refine j_callS C (cl_far hw1 hw2 hw3 hm1 hm2 hm3) dL_corrects_200 gL_corrects_L_far rfl ks_L_far rfl rfl (Nat.le_of_ble_eq_true rfl) ⟨by decide, by decide⟩ ⟨Nat.zero_le _, Nat.zero_le _⟩ (k_I ?_)
        refine j_top C (nI 0) (congrArg nI hfar) ?_
        refine j_istore C dL_corrects_203 (by decide) ?_
        refine j_lv (lv2 := [(0, _), (1, _), (2, _), (3, _), (4, _), (5, _), (7, _), (8, _), (9, _), (10, _), (11, _), (12, _), (13, _), (14, _)]) rfl ?_
        refine j_iload C dL_corrects_205 rfl ?_
        refine j_if_eqN C dL_corrects_207 (tgt := 252) (by decide) (by omega) (fun cq207 => absurd cq207 (by decide)) (fun cq207 => ?_)
        refine j_iload C dL_corrects_210 rfl ?_
        refine j_if_ge C dL_corrects_212 (tgt := 223) (by decide) (fun cq212 => absurd cq212 (by decide)) (fun cq212 => ?_)
        refine j_iload C dL_corrects_215 rfl ?_
        refine j_if_neN C dL_corrects_217 (tgt := 252) (by decide) (by omega) (fun cq217 => absurd cq217 (by decide)) (fun cq217 => ?_)
        refine j_goto C dL_corrects_220 (tgt := 241) (by decide) ?_
        refine j_aload_n C dL_corrects_241 rfl ?_
        refine j_callSH C (x_und h2) dL_corrects_242 gL_corrects_L_undo rfl ks_L_undo rfl rfl (Nat.le_of_ble_eq_true rfl) ⟨by decide, by decide⟩ ⟨Nat.zero_le _, Nat.zero_le _⟩ (k_IQ fun M3 h3 => ?_)
        have n3 := h3.n6
        refine j_if_ltN C dL_corrects_245 (tgt := 252) (by decide) (by omega) (fun cq245 => absurd cq245 (by omega)) (fun cq245 => ?_)
        refine j_iconst C dL_corrects_248 (v := nI 1) (by decide) ?_
        refine j_goto C dL_corrects_249 (tgt := 253) (by decide) ?_
        refine j_istore C dL_corrects_253 (by decide) ?_
        refine j_lv (lv2 := [(0, _), (1, _), (2, _), (3, _), (4, _), (5, _), (7, _), (8, _), (9, _), (10, _), (11, _), (12, _), (13, _), (14, _)]) rfl ?_
        refine j_iload C dL_corrects_255 rfl ?_
        refine j_if_eqN C dL_corrects_257 (tgt := 315) (by decide) (by omega) (fun cq257 => absurd cq257 (by decide)) (fun cq257 => ?_)
        refine j_aload_n C dL_corrects_260 rfl ?_
        refine j_iload_n C dL_corrects_261 rfl ?_
        refine j_iconst C dL_corrects_262 (v := nI 0) (by decide) ?_
        refine j_iload C dL_corrects_263 rfl ?_
        refine j_bipush C dL_corrects_265 (v := nI 100) (by decide) ?_
        refine j_idivN C dL_corrects_267 (by omega) (by decide) (by decide) ?_
        refine j_callSH C (x_mix h3 (Nat.le_of_ble_eq_true rfl) hf (by decide) (by omega)) dL_corrects_268 gL_corrects_L_mix rfl ks_L_mix rfl rfl (Nat.le_of_ble_eq_true rfl) ⟨by decide, by decide⟩ ⟨Nat.zero_le _, Nat.zero_le _⟩ (k_IQ fun M4 h4 => ?_)
        refine j_top C (nI (σ (4 * f))) (congrArg nI (hτ _ (by omega))) ?_
        have n4 := h4.n6
        refine j_iload C dL_corrects_271 rfl ?_
        refine j_icmp_ne C dL_corrects_273 (tgt := 315) (by decide) (fun q9 => (q9 (rfl)).elim) (fun _ => ?_)
        refine j_aload_n C dL_corrects_276 rfl ?_
        refine j_iload_n C dL_corrects_277 rfl ?_
        refine j_iconst C dL_corrects_278 (v := nI 1) (by decide) ?_
        refine j_iload C dL_corrects_279 rfl ?_
        refine j_bipush C dL_corrects_281 (v := nI 10) (by decide) ?_
        refine j_idivN C dL_corrects_283 (by omega) (by decide) (by decide) ?_
        refine j_bipush C dL_corrects_284 (v := nI 10) (by decide) ?_
        refine j_iremN C dL_corrects_286 (by omega) (by decide) (by decide) ?_
        refine j_callSH C (x_mix h4 (Nat.le_of_ble_eq_true rfl) hf (by decide) (by omega)) dL_corrects_287 gL_corrects_L_mix rfl ks_L_mix rfl rfl (Nat.le_of_ble_eq_true rfl) ⟨by decide, by decide⟩ ⟨Nat.zero_le _, Nat.zero_le _⟩ (k_IQ fun M5 h5 => ?_)
        refine j_top C (nI (σ (4 * f + 1))) (congrArg nI ((upS_ne (by omega)).trans (hτ _ (by omega)))) ?_
        have n5 := h5.n6
        refine j_iload C dL_corrects_290 rfl ?_
        refine j_icmp_ne C dL_corrects_292 (tgt := 315) (by decide) (fun q9 => (q9 (rfl)).elim) (fun _ => ?_)
        refine j_aload_n C dL_corrects_295 rfl ?_
        refine j_iload_n C dL_corrects_296 rfl ?_
        refine j_iconst C dL_corrects_297 (v := nI 2) (by decide) ?_
        refine j_iload C dL_corrects_298 rfl ?_
        refine j_bipush C dL_corrects_300 (v := nI 10) (by decide) ?_
        refine j_iremN C dL_corrects_302 (by omega) (by decide) (by decide) ?_
        refine j_callSH C (x_mix h5 (Nat.le_of_ble_eq_true rfl) hf (by decide) (by omega)) dL_corrects_303 gL_corrects_L_mix rfl ks_L_mix rfl rfl (Nat.le_of_ble_eq_true rfl) ⟨by decide, by decide⟩ ⟨Nat.zero_le _, Nat.zero_le _⟩ (k_IQ fun M6 h6x => ?_)
        refine j_top C (nI (σ (4 * f + 2))) (congrArg nI (((upS_ne (by omega)).trans (upS_ne (by omega))).trans (hτ _ (by omega)))) ?_
        have n6 := h6x.n6
        refine j_iload C dL_corrects_306 rfl ?_
        refine j_icmp_ne C dL_corrects_308 (tgt := 315) (by decide) (fun q9 => (q9 (rfl)).elim) (fun _ => ?_)
        refine j_iconst C dL_corrects_311 (v := nI 1) (by decide) ?_
        refine j_goto C dL_corrects_312 (tgt := 316) (by decide) ?_
        refine j_istore C dL_corrects_316 (by decide) ?_
        refine j_lv (lv2 := [(0, _), (1, _), (2, _), (3, _), (4, _), (5, _), (7, _), (8, _), (9, _), (10, _), (11, _), (12, _), (13, _), (14, _)]) rfl ?_
        refine j_bipush C dL_corrects_318 (v := nI 100) (by decide) ?_
        refine j_iload C dL_corrects_320 rfl ?_
        refine j_imulN C dL_corrects_322 ?_
        refine j_bipush C dL_corrects_323 (v := nI 10) (by decide) ?_
        refine j_iload C dL_corrects_325 rfl ?_
        refine j_imulN C dL_corrects_327 ?_
        refine j_iaddN C dL_corrects_328 ?_
        refine j_iload C dL_corrects_329 rfl ?_
        refine j_iaddN C dL_corrects_331 ?_
        refine j_top C (nI (cod (σ (4 * f)) (σ (4 * f + 1)) (σ (4 * f + 2)))) rfl ?_
        refine j_iload C dL_corrects_332 rfl ?_
        refine j_top C (nI (cod (t / 100) (t / 10 % 10) (t % 10))) (congrArg nI (cod_dig ht)) ?_
        refine j_callS C (cl_far hw1 hw2 hw3 (by omega) (by omega) (by omega)) dL_corrects_334 gL_corrects_L_far rfl ks_L_far rfl rfl (Nat.le_of_ble_eq_true rfl) ⟨by decide, by decide⟩ ⟨Nat.zero_le _, Nat.zero_le _⟩ (k_I ?_)
        refine j_top C (nI (chg σ f t)) rfl ?_
        refine j_istore C dL_corrects_337 (by decide) ?_
        refine j_lv (lv2 := [(0, _), (1, _), (2, _), (3, _), (4, _), (5, _), (7, _), (8, _), (9, _), (10, _), (11, _), (12, _), (13, _), (14, _), (15, _)]) rfl ?_
        refine j_iload C dL_corrects_339 rfl ?_
        refine j_if_eqN C dL_corrects_341 (tgt := 370) (by decide) (by omega) (fun cq341 => absurd cq341 (by decide)) (fun cq341 => ?_)
        refine j_aload_n C dL_corrects_344 rfl ?_
        refine j_iload_n C dL_corrects_345 rfl ?_
        refine j_iload_n C dL_corrects_346 rfl ?_
        refine j_iload_n C dL_corrects_347 rfl ?_
        refine j_callSH C (x_ap h6x hp hf hg) dL_corrects_348 gL_corrects_L_apart rfl ks_L_apart rfl rfl (Nat.le_of_ble_eq_true rfl) ⟨by decide, by decide⟩ ⟨Nat.zero_le _, Nat.zero_le _⟩ (k_I ?_)
        refine j_if_eqB C dL_corrects_351 (tgt := 366) (by decide) (fun cq351 => ?_) (fun cq351 => absurd cq351 (by rw [hapt]; decide))
        refine j_iconst C dL_corrects_366 (v := nI 1) (by decide) ?_
        refine j_goto C dL_corrects_367 (tgt := 371) (by decide) ?_
        refine j_istore C dL_corrects_371 (by decide) ?_
        refine j_lv (lv2 := [(0, _), (1, _), (2, _), (3, _), (4, _), (5, _), (7, _), (8, _), (9, _), (10, _), (11, _), (12, _), (13, _), (14, _), (15, _)]) rfl ?_
        refine j_iload C dL_corrects_373 rfl ?_
        refine j_if_eqN C dL_corrects_375 (tgt := 420) (by decide) (by omega) (fun cq375 => absurd cq375 (by decide)) (fun cq375 => ?_)
        refine j_aload_n C dL_corrects_378 rfl ?_
        refine j_callSH C (x_und h6x) dL_corrects_379 gL_corrects_L_undo rfl ks_L_undo rfl rfl (Nat.le_of_ble_eq_true rfl) ⟨by decide, by decide⟩ ⟨Nat.zero_le _, Nat.zero_le _⟩ (k_IQ fun M7 h7 => ?_)
        have n7 := h7.n6
        refine j_if_ltN C dL_corrects_382 (tgt := 420) (by decide) (by omega) (fun cq382 => absurd cq382 (by omega)) (fun cq382 => ?_)
        refine j_aload_n C dL_corrects_385 rfl ?_
        refine j_callSH C (x_und h7) dL_corrects_386 gL_corrects_L_undo rfl ks_L_undo rfl rfl (Nat.le_of_ble_eq_true rfl) ⟨by decide, by decide⟩ ⟨Nat.zero_le _, Nat.zero_le _⟩ (k_IQ fun M8 h8 => ?_)
        have n8 := h8.n6
        refine j_if_ltN C dL_corrects_389 (tgt := 420) (by decide) (by omega) (fun cq389 => absurd cq389 (by omega)) (fun cq389 => ?_)
        refine j_aload_n C dL_corrects_392 rfl ?_
        refine j_callSH C (x_und h8) dL_corrects_393 gL_corrects_L_undo rfl ks_L_undo rfl rfl (Nat.le_of_ble_eq_true rfl) ⟨by decide, by decide⟩ ⟨Nat.zero_le _, Nat.zero_le _⟩ (k_IQ fun M9 h9 => ?_)
        have n9 := h9.n6
        refine j_if_ltN C dL_corrects_396 (tgt := 420) (by decide) (by omega) (fun cq396 => absurd cq396 (by omega)) (fun cq396 => ?_)
        refine j_aload_n C dL_corrects_399 rfl ?_
        refine j_callSH C (x_und h9) dL_corrects_400 gL_corrects_L_undo rfl ks_L_undo rfl rfl (Nat.le_of_ble_eq_true rfl) ⟨by decide, by decide⟩ ⟨Nat.zero_le _, Nat.zero_le _⟩ (k_IQ fun M10 h10 => ?_)
        have n10 := h10.n6
        refine j_if_ltN C dL_corrects_403 (tgt := 420) (by decide) (by omega) (fun cq403 => absurd cq403 (by omega)) (fun cq403 => ?_)
        refine j_aload_n C dL_corrects_406 rfl ?_
        refine j_callS C (cl_print h10) dL_corrects_407 gL_corrects_L_print rfl ks_L_print rfl rfl (Nat.le_of_ble_eq_true rfl) ⟨by decide, by decide⟩ ⟨Nat.zero_le _, Nat.zero_le _⟩ (k_L ?_)
        refine j_lload C dL_corrects_410 rfl ?_
        refine j_lcmp C dL_corrects_412 ?_
        refine j_top C (nI 0) (lg_self _) ?_
        refine j_if_neN C dL_corrects_413 (tgt := 420) (by decide) (by omega) (fun cq413 => absurd cq413 (by decide)) (fun cq413 => ?_)
        refine j_iconst C dL_corrects_416 (v := nI 1) (by decide) ?_
        refine j_goto C dL_corrects_417 (tgt := 421) (by decide) ?_
        refine j_top C (bI true) rfl ?_
        exact j_zreturn C hret dL_corrects_421 ⟨rfl, _, h10⟩
      · refine j_iload C dL_corrects_139 rfl ?_
        refine j_if_le C dL_corrects_141 (tgt := 148) (by decide) (fun cq141 => ?_) (fun cq141 => ?_)
        · refine j_iconst C dL_corrects_148 (v := nI 0) (by decide) ?_
          exact j_join (false) K149 (rfl)
        · refine j_iconst C dL_corrects_144 (v := nI 1) (by decide) ?_
          refine j_goto C dL_corrects_145 (tgt := 149) (by decide) ?_
          exact j_join (false) K149 (absurd (by decide) cq141)
    · refine j_aload_n C dL_corrects_97 rfl ?_
      refine j_iload C dL_corrects_98 rfl ?_
      refine j_iconst C dL_corrects_100 (v := nI 2) (by decide) ?_
      refine j_callSH C (x_chr h1 (by rw [adS_44 h6]; omega)) dL_corrects_101 gL_corrects_L_chartOf rfl ks_L_chartOf rfl rfl (Nat.le_of_ble_eq_true rfl) ⟨by decide, by decide⟩ ⟨Nat.zero_le _, Nat.zero_le _⟩ (k_I ?_)
      refine j_top C (nI (tpm (adS σ f g) f g)) (by unfold rdm; rw [adS_f h6, adS_g h6]) ?_
      refine j_iload_n C dL_corrects_104 rfl ?_
      refine j_ishr C dL_corrects_105 ?_
      refine j_iconst C dL_corrects_106 (v := nI 1) (by decide) ?_
      refine j_iand C dL_corrects_107 ?_
      refine j_top C (bI (ap (adS σ f g) p f g)) (tpm_I hp) ?_
      refine j_iconst C dL_corrects_108 (v := nI 1) (by decide) ?_
      refine j_icmp_ne C dL_corrects_109 (tgt := 116) (by decide) (fun cq109 => ?_) (fun cq109 => ?_)
      · refine j_iconst C dL_corrects_116 (v := nI 0) (by decide) ?_
        exact j_join (ap (adS σ f g) p f g) K117 (by rw [bI_n1 cq109]; rfl)
      · refine j_iconst C dL_corrects_112 (v := nI 1) (by decide) ?_
        refine j_goto C dL_corrects_113 (tgt := 117) (by decide) ?_
        exact j_join (ap (adS σ f g) p f g) K117 (by rw [bI_1.mp cq109]; rfl)
  · refine j_iload C dL_corrects_87 rfl ?_
    refine j_if_ne C dL_corrects_89 (tgt := 96) (by decide) (fun cq89 => ?_) (fun cq89 => ?_)
    · refine j_iconst C dL_corrects_96 (v := nI 0) (by decide) ?_
      exact j_join (false) K97 (rfl)
    · refine j_iconst C dL_corrects_92 (v := nI 1) (by decide) ?_
      refine j_goto C dL_corrects_93 (tgt := 97) (by decide) ?_
      exact j_join (false) K97 (absurd cq89 (by decide))

set_option maxHeartbeats 4000000 in
set_option maxRecDepth 100000 in
theorem cl_corr_6 {l : Launch} {G : GG} {M : MM} {σ : Sg} {n : Nat} (h : Xs M σ n []) {p f g t : Nat} (hp : p < 4) (hf : f < 8) (hg : g < 8) (hne : ¬ f = g) (ht : t < 1000) (h46 : σ 44 = 6) : Ct l G yL_corrects wsL_corrects 14 ([.ref (G.2.2 72), .int (nI p), .int (nI f), .int (nI g), .int (nI t)] : List Value) M (fun v9 M9 => v9 = some (.int (bI true)) ∧ ∃ n9, Xs M9 σ n9 []) := by
  have hW := h.wf
  have h44 := hW.2.2.1
  have hn := h.n6
  obtain ⟨hs1, hs2, -⟩ := svN_s hn
  refine Ct.of (cc := cL_corrects) (maxL := 16) (ret := (some .boolean)) (lv := [(0, .ref (G.2.2 72)), (1, .int (nI p)), (2, .int (nI f)), (3, .int (nI g)), (4, .int (nI t))]) (by decide) rfl rfl (Nat.le_of_ble_eq_true rfl) ?_
  intro pg ev sg mm bl mt cd AZ C hret
  refine j_aload_n C dL_corrects_0 rfl ?_
  refine j_iconst C dL_corrects_1 (v := nI 2) (by decide) ?_
  refine j_callSH C (x_ct2 h) dL_corrects_2 gL_corrects_L_count rfl ks_L_count rfl rfl (Nat.le_of_ble_eq_true rfl) ⟨by decide, by decide⟩ ⟨Nat.zero_le _, Nat.zero_le _⟩ (k_I ?_)
  refine j_bipush C dL_corrects_5 (v := nI 6) (by decide) ?_
  refine j_icmp_neN C dL_corrects_7 (tgt := 33) (by decide) (by omega) (by omega) (fun cq7 => absurd cq7 (by omega)) (fun cq7 => ?_)
  refine j_aload_n C dL_corrects_10 rfl ?_
  refine j_iload_n C dL_corrects_11 rfl ?_
  refine j_iload_n C dL_corrects_12 rfl ?_
  refine j_callSH C (x_hng h (Nat.le_of_ble_eq_true rfl) hf hg hne) dL_corrects_13 gL_corrects_L_hang rfl ks_L_hang rfl rfl (Nat.le_of_ble_eq_true rfl) ⟨by decide, by decide⟩ ⟨Nat.zero_le _, Nat.zero_le _⟩ (k_IQ fun M1 h1 => ?_)
  refine j_top C (-1) (if_pos (by omega)) ?_
  refine j_iconst C dL_corrects_16 (v := -1) (by decide) ?_
  refine j_icmp_ne C dL_corrects_17 (tgt := 31) (by decide) (fun q9 => (q9 (rfl)).elim) (fun _ => ?_)
  refine j_aload_n C dL_corrects_20 rfl ?_
  refine j_callSH C (x_und h1) dL_corrects_21 gL_corrects_L_undo rfl ks_L_undo rfl rfl (Nat.le_of_ble_eq_true rfl) ⟨by decide, by decide⟩ ⟨Nat.zero_le _, Nat.zero_le _⟩ (k_IQ fun M2 h2 => ?_)
  refine j_if_ltN C dL_corrects_24 (tgt := 31) (by decide) (by omega) (fun cq24 => absurd cq24 (by omega)) (fun cq24 => ?_)
  refine j_iconst C dL_corrects_27 (v := nI 1) (by decide) ?_
  refine j_goto C dL_corrects_28 (tgt := 32) (by decide) ?_
  refine j_top C (bI true) rfl ?_
  exact j_zreturn C hret dL_corrects_32 ⟨rfl, _, h2⟩

theorem cl_corrects {l : Launch} {G : GG} {M : MM} {σ : Sg} {n : Nat} (h : Xs M σ n []) {p f g t : Nat} (hp : p < 4) (hf : f < 8) (hg : g < 8) (hne : ¬ f = g) (ht : t < 1000)  : Ct l G yL_corrects wsL_corrects 14 ([.ref (G.2.2 72), .int (nI p), .int (nI f), .int (nI g), .int (nI t)] : List Value) M (fun v9 M9 => v9 = some (.int (bI true)) ∧ ∃ n9, Xs M9 σ n9 []) := by
  by_cases h46 : σ 44 = 6
  · exact cl_corr_6 h hp hf hg hne ht h46
  · cases hq : (nst σ p f g 1000).1 with
    | zero => exact cl_corr_n h hp hf hg hne ht h46 hq
    | succ k => exact cl_corr_s h hp hf hg hne ht h46 hq
