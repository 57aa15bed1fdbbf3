set_option maxRecDepth 20000 in
theorem ks_L_low : yL_low.cls ≠ "java/lang/invoke/MethodHandle" ∧ yL_low.cls ≠ "java/lang/invoke/VarHandle" ∧ (parseMethodDescriptor yL_low.desc).map (fun d => d.parameters.length) = some 2 := by decide +kernel
set_option maxRecDepth 20000 in
theorem ks_L_takeDown : yL_takeDown.cls ≠ "java/lang/invoke/MethodHandle" ∧ yL_takeDown.cls ≠ "java/lang/invoke/VarHandle" ∧ (parseMethodDescriptor yL_takeDown.desc).map (fun d => d.parameters.length) = some 2 := by decide +kernel
set_option maxRecDepth 20000 in
theorem ks_L_label : yL_label.cls ≠ "java/lang/invoke/MethodHandle" ∧ yL_label.cls ≠ "java/lang/invoke/VarHandle" ∧ (parseMethodDescriptor yL_label.desc).map (fun d => d.parameters.length) = some 3 := by decide +kernel
set_option maxRecDepth 20000 in
theorem ks_L_painter : yL_painter.cls ≠ "java/lang/invoke/MethodHandle" ∧ yL_painter.cls ≠ "java/lang/invoke/VarHandle" ∧ (parseMethodDescriptor yL_painter.desc).map (fun d => d.parameters.length) = some 4 := by decide +kernel
set_option maxRecDepth 20000 in
theorem kd_X5_clearBuffer : yX5_clearBuffer.cls = RX5 ∧ yX5_clearBuffer.cls ≠ "java/lang/invoke/MethodHandle" ∧ yX5_clearBuffer.cls ≠ "java/lang/invoke/VarHandle" ∧ (parseMethodDescriptor yX5_clearBuffer.desc).map (fun d => d.parameters.length) = some 0 := by decide +kernel
set_option maxRecDepth 20000 in
theorem ks_L_load : yL_load.cls ≠ "java/lang/invoke/MethodHandle" ∧ yL_load.cls ≠ "java/lang/invoke/VarHandle" ∧ (parseMethodDescriptor yL_load.desc).map (fun d => d.parameters.length) = some 1 := by decide +kernel
set_option maxRecDepth 20000 in
theorem ks_L_append : yL_append.cls ≠ "java/lang/invoke/MethodHandle" ∧ yL_append.cls ≠ "java/lang/invoke/VarHandle" ∧ (parseMethodDescriptor yL_append.desc).map (fun d => d.parameters.length) = some 2 := by decide +kernel
section JAct
variable {G : GG} {p : Program} {l : Launch} {e : Env} {R : Room} {s : State} {m : MethodId} {args : Array Value} {below : List Frame} {meth : Method} {c : Code} {A : Nat → Prop} {nL : Nat} {Q : State → Prop} {k9 n9 pc : Nat} {lv : List (Nat × Value)} {st : List Value} {M : MM} {cc : ByteArray} {own : String} {Ts : List Cond} {Qf : Option Value → MM → Prop}
theorem Cw.ofC {l : Launch} {G : GG} {y : MethodName} {ws ws' : List Cond} {d : Nat} {av : List Value} {M : MM} {Qf : Option Value → MM → Prop} {cc : ByteArray} {maxL : Nat} {ret : Option FieldType} {lv : List (Nat × Value)} (hy : plainName y.cls = true) (hw : ws = Cond.code y cc maxL ret :: ws') (hlv : lv_args 0 av = lv) (hlen : (lg_sl av).length ≤ maxL)
    (body : ∀ (p : Program) (e : Env) (s : State) (m : MethodId) (below : List Frame) (meth : Method) (c : Code) (A : Nat → Prop), Cx G p s m av.toArray meth c A cc maxL y.cls ws → XW A s → meth.sig.returnType = ret → J G p l e (rmX d) s m av.toArray below meth c A maxL (MQ below (QQ G Qf A) av.toArray s 1 6 A) 0 0 0 lv [] M) : Cw l G y ws d av M Qf := by
  intro sz
  refine Met.ofW (cc := cc) (maxL := maxL) (ret := ret) hy hw ?_
  intro p e s m args below meth c s₁ B hml hv
  obtain ⟨rfl, hsz, ⟨hP, hK, hg⟩, hX⟩ := hv
  subst hsz
  have C : Cx G p s m av.toArray meth c (AA G s.heap.size) cc maxL y.cls ws := ⟨B.exec, B.bytes, hml, findClass_of_methodNamed B.named, atoms_spec (ws := ws) B.pre, B.notSynchronized, hK, hg, fun i hi => Or.inl ⟨i, hi, rfl⟩, fun q h => Or.inr h⟩
  have hl := lv_entry av hlen
  rw [hlv] at hl
  rw [lg_entry_eq]
  exact body p e s m below meth c _ C hX B.returns s.heap [] _ hP va_S.rf hl
theorem j_callSW (C : Cx G p s m args meth c A cc nL own Ts) (hX : XW A s) {index d maxL n : Nat} {hh : List (Nat × Nat × Nat × Nat)} {As rest st0 : List Value} {y : MethodName} {ws' ws2 : List Cond} {bytes : ByteArray} {ret : Option FieldType}
    (hC : Cw l G y ws' d As M Qf) (hd : decode cc pc = .ok (.invokestatic index, 3)) (hG : GoodIn Ts (va_wsS own index y ws')) (hw : ws' = Cond.codeWith y bytes maxL ret hh :: ws2)
    (hy : y.cls ≠ "java/lang/invoke/MethodHandle" ∧ y.cls ≠ "java/lang/invoke/VarHandle" ∧ (parseMethodDescriptor y.desc).map (fun d => d.parameters.length) = some n) (hn : As.length = n) (hst : st0 = As.reverse ++ rest) (hcat : (rest.map fun v => v.category).sum ≤ 8) (hR : (rmX d).frames + 1 ≤ R.frames ∧ 8 + (maxL + 11) + (rmX d).locals ≤ R.locals) (hkn : k9 + 1 ≤ R.cells ∧ n9 + 6 ≤ R.slots)
    (k : ∀ (v : Option Value) (M' : MM), Qf v M' → J G p l e R s m args below meth c A nL Q (k9 + 1) (n9 + 6) (pc + 3) lv (v.toList ++ rest) M') : J G p l e R s m args below meth c A nL Q k9 n9 pc lv st0 M := by
  refine j_runK C (rest := rest) (a9 := As.toArray) (fun H locs ls hP hS hv => ?_) k
  have hA := AA_sub C.2.2.2.2.2.2.2.2.1 C.2.2.2.2.2.2.2.2.2 hS.1
  exact vx_runSW (As := As) (rest := rest) ⟨C.1, C.2.1, C.2.2.1, C.2.2.2.1, C.2.2.2.2.1⟩ (hC H.size) (vx_cwSW n C.2.2.2.2.1 hG hw rfl rfl hy hR) ⟨WX.blind, fun U hU hW => ⟨rfl, by rw [hU], ⟨by rw [hU]; exact hP, C.2.2.2.2.2.2.1.warm hW, C.2.2.2.2.2.2.2.1⟩, hX.at hS hA hU hW⟩⟩ rfl hn hv.1 hst (lv_room hcat) hd hkn
theorem j_callSWc (C : Cx G p s m args meth c A cc nL own Ts) (hX : XW A s) {index d maxL n : Nat} {As rest st0 : List Value} {y : MethodName} {ws' ws2 : List Cond} {bytes : ByteArray} {ret : Option FieldType}
    (hC : Cw l G y ws' d As M Qf) (hd : decode cc pc = .ok (.invokestatic index, 3)) (hG : GoodIn Ts (va_wsS own index y ws')) (hw : ws' = Cond.code y bytes maxL ret :: ws2)
    (hy : y.cls ≠ "java/lang/invoke/MethodHandle" ∧ y.cls ≠ "java/lang/invoke/VarHandle" ∧ (parseMethodDescriptor y.desc).map (fun d => d.parameters.length) = some n) (hn : As.length = n) (hst : st0 = As.reverse ++ rest) (hcat : (rest.map fun v => v.category).sum ≤ 8) (hR : (rmX d).frames + 1 ≤ R.frames ∧ 8 + (maxL + 11) + (rmX d).locals ≤ R.locals) (hkn : k9 + 1 ≤ R.cells ∧ n9 + 6 ≤ R.slots)
    (k : ∀ (v : Option Value) (M' : MM), Qf v M' → J G p l e R s m args below meth c A nL Q (k9 + 1) (n9 + 6) (pc + 3) lv (v.toList ++ rest) M') : J G p l e R s m args below meth c A nL Q k9 n9 pc lv st0 M := by
  refine j_runK C (rest := rest) (a9 := As.toArray) (fun H locs ls hP hS hv => ?_) k
  have hA := AA_sub C.2.2.2.2.2.2.2.2.1 C.2.2.2.2.2.2.2.2.2 hS.1
  exact va_runS (As := As) (rest := rest) ⟨C.1, C.2.1, C.2.2.1, C.2.2.2.1, C.2.2.2.2.1⟩ (hC H.size) (va_cwS n C.2.2.2.2.1 hG hw rfl rfl hy hR) ⟨WX.blind, fun U hU hW => ⟨rfl, by rw [hU], ⟨by rw [hU]; exact hP, C.2.2.2.2.2.2.1.warm hW, C.2.2.2.2.2.2.2.1⟩, hX.at hS hA hU hW⟩⟩ rfl hn hv.1 hst (lv_room hcat) hd hkn
theorem k_ER {P : MM → Prop} {rest : List Value} {pc1 : Nat} (k : ∀ (r : Int32) (M' : MM), P M' → J G p l e R s m args below meth c A nL Q k9 n9 pc1 lv (.int r :: rest) M') : ∀ (v : Option Value) (M' : MM), (∃ r : Int32, v = some (.int r) ∧ P M') → J G p l e R s m args below meth c A nL Q k9 n9 pc1 lv (v.toList ++ rest) M' := by
  rintro v M' ⟨r, rfl, h⟩; exact k r M' h
end JAct
/-! the text that act writes -/
def actT (x y : Int32) : Nat → Nat := fun j => if j % 6 = 0 then 48 + lw (x >>> (nI (3 * (j / 6)) &&& 31)) 8 else if j % 6 = 1 then 61 else if j % 6 = 5 then 59 else 48 + lw (y >>> (nI (2 * (j / 6) + 5 * (j % 6 - 2)) &&& 31)) 10
theorem actT_0 {x y : Int32} {k : Nat} : actT x y (6 * k) = 48 + lw (x >>> (nI (3 * k) &&& 31)) 8 := by
  unfold actT
  rw [if_pos (by omega), show 6 * k / 6 = k by omega]
theorem actT_1 {x y : Int32} {k : Nat} : actT x y (6 * k + 1) = 61 := by
  unfold actT
  rw [if_neg (by omega), if_pos (by omega)]
theorem actT_2 {x y : Int32} {k t : Nat} (ht : t < 3) : actT x y (6 * k + 2 + t) = 48 + lw (y >>> (nI (2 * k + 5 * t) &&& 31)) 10 := by
  unfold actT
  rw [if_neg (by omega), if_neg (by omega), if_neg (by omega), show (6 * k + 2 + t) / 6 = k by omega, show (6 * k + 2 + t) % 6 - 2 = t by omega]
theorem actT_5 {x y : Int32} {k : Nat} (hk : 0 < k) : actT x y (6 * k - 1) = 59 := by
  unfold actT
  rw [if_neg (by omega), if_neg (by omega), if_pos (by omega)]
theorem actT_fit {x y : Int32} (j : Nat) : fitB (j % 6) (actT x y j) = true := by
  have h8 : ∀ v : Int32, lw v 8 < 8 := fun v => lw_lt (by decide)
  have h10 : ∀ v : Int32, lw v 10 < 10 := fun v => lw_lt (by decide)
  unfold actT
  rcases (show j % 6 = 0 ∨ j % 6 = 1 ∨ j % 6 = 2 ∨ j % 6 = 3 ∨ j % 6 = 4 ∨ j % 6 = 5 by omega) with e | e | e | e | e | e
  · rw [e, if_pos rfl]
    have := h8 (x >>> (nI (3 * (j / 6)) &&& 31))
    exact decide_eq_true (by omega)
  · rw [e, if_neg (by decide), if_pos rfl]; exact (by decide : fitB 1 61 = true)
  · rw [e, if_neg (by decide), if_neg (by decide), if_neg (by decide)]
    have := h10 (y >>> (nI (2 * (j / 6) + 5 * (2 - 2)) &&& 31))
    exact decide_eq_true (by omega)
  · rw [e, if_neg (by decide), if_neg (by decide), if_neg (by decide)]
    have := h10 (y >>> (nI (2 * (j / 6) + 5 * (3 - 2)) &&& 31))
    exact decide_eq_true (by omega)
  · rw [e, if_neg (by decide), if_neg (by decide), if_neg (by decide)]
    have := h10 (y >>> (nI (2 * (j / 6) + 5 * (4 - 2)) &&& 31))
    exact decide_eq_true (by omega)
  · rw [e, if_neg (by decide), if_neg (by decide), if_pos rfl]; exact (by decide : fitB 5 59 = true)
theorem actT_tp {x y : Int32} {k : Nat} {f : Nat → Nat} (hk : 0 < k) (h : ∀ j, j < 6 * k - 1 → f j = actT x y j) : tpT (6 * k - 1) f = true := by
  unfold tpT
  rw [decide_eq_true (show (6 * k - 1) % 6 = 5 by omega), Bool.true_and]
  refine decide_eq_true (ffF_is (Nat.le_refl _) (fun j hj => ?_) (Or.inl rfl))
  unfold okT
  rw [h j hj]
  exact actT_fit j
theorem gvS_co {σ : Sg} {f g : Nat → Nat} : ∀ {k : Nat}, (∀ j, j + 1 < 6 * k → f j = g j) → gvS σ f k = gvS σ g k
  | 0, _ => rfl
  | k + 1, h => by
    unfold gvS
    rw [gvS_co (f := f) (g := g) (k := k) (fun j hj => h j (by omega)), h (6 * k) (by omega), h (6 * k + 2) (by omega), h (6 * k + 3) (by omega), h (6 * k + 4) (by omega)]
theorem ag_s {f T : Nat → Nat} {m c : Nat} (h : ∀ j, j < m → f j = T j) (hc : c = T m) : ∀ j, j < m + 1 → (if j = m then c else f j) = T j := fun j hj => by
  by_cases e : j = m
  · rw [if_pos e, e]; exact hc
  · rw [if_neg e]; exact h j (by omega)
/-! what act answers -/
def actN (σ : Sg) (x y : Int32) (k : Nat) : Int32 := match k with
  | 0 => nI (pr (gvS σ (actT x y) (1 + lw (x >>> (nI 4 &&& 31)) 8)) 0)
  | 1 => nI (pr (gvS σ (actT x y) (1 + lw (x >>> (nI 4 &&& 31)) 8)) 0)
  | 2 => adR σ
  | 3 => adR σ
  | 4 => if lw y 6 < σ 44 then nI (popc (rdm σ (lw y 6))) else -1000001
  | 5 => if lw y 6 < σ 44 then lsR (mrk σ (lw (y >>> (nI 3 &&& 31)) 4) (lw y 6)) else -1000001
  | 6 => if lw y 6 < σ 44 then lsR (mrk σ (lw (y >>> (nI 3 &&& 31)) 4) (lw y 6)) else -1000001
  | 7 => nI (popc (lmask (lbS σ (lw y 4) 8)))
  | 8 => oI (σ (4 * lw y 8 + 3))
  | 9 => oI (σ (34 + 3 * lw y 4))
  | 10 => nI (σ (32 + 3 * lw y 4))
  | 11 => nI (σ (33 + 3 * lw y 4))
  | _ => nI (pr3 (lw y 3) (σ (4 * lw (x >>> (nI 4 &&& 31)) 8)) (σ (4 * lw (x >>> (nI 4 &&& 31)) 8 + 1)) (σ (4 * lw (x >>> (nI 4 &&& 31)) 8 + 2)))
def actV (σ : Sg) (x y : Int32) : Int32 := actN σ x y (lw x 14)
def ActP (σ : Sg) (n : Nat) (r : Int32) (M9 : MM) : Prop := (r = -1000001 ∧ Xs M9 σ n []) ∨ (¬ r < -1000 ∧ ∃ τ, Xs M9 τ (svN n) [σ])
theorem ok_N {m : Nat} (h : m < 2 ^ 31) : ¬ nI m < -1000 := fun q => nI_pos h (Int32.lt_trans q (by decide))
theorem ok_O {m : Nat} (h : m < 2 ^ 31) : ¬ oI m < -1000 := by
  cases m with
  | zero => decide
  | succ k => exact ok_N (by omega)
theorem ok_ls {a : Nat × Nat} (h : a.2 ≤ 28) : ¬ lsR a < -1000 := by
  cases ha : a.1 with
  | zero => rw [lsR_0 ha]; decide
  | succ k => rw [lsR_1 ha]; exact ok_N (by omega)
theorem ok_ad {σ : Sg} (h : σ 44 ≤ 6) : ¬ adR σ < -1000 := by
  unfold adR
  by_cases e : 6 ≤ σ 44
  · rw [if_pos e]; decide
  · rw [if_neg e]; exact ok_N (by omega)
theorem pr3_le {k a b c : Nat} (ha : a ≤ 9) (hb : b ≤ 9) (hc : c ≤ 9) : pr3 k a b c ≤ 9 := by
  unfold pr3
  split <;> assumption

set_option maxHeartbeats 4000000 in
set_option maxRecDepth 100000 in
theorem cl_act_2 {l : Launch} {G : GG} {M : MM} {σ : Sg} {n : Nat} {x y : Int32} (h : Xs M σ n []) (hk : lw x 14 = 2)  : Cw l G yL_act wsL_act 13 ([.ref (G.2.2 72), .int (x), .int (y)] : List Value) M (fun v9 M9 => v9 = some (.int (adR σ)) ∧ ActP σ n (adR σ) M9) := by
  have hW := h.wf
  have h44 := hW.2.2.1
  have hn6 := h.n6
  have ha := lw_lt (v := y) (n := 8) (by decide)
  have hb := lw_lt (v := (y >>> (nI 3 &&& 31))) (n := 7) (by decide)
  refine Cw.ofC (cc := cL_act) (maxL := 7) (ret := (some .int)) (lv := [(0, .ref (G.2.2 72)), (1, .int (x)), (2, .int (y))]) (by decide) rfl rfl (Nat.le_of_ble_eq_true rfl) ?_
  intro pg ev sg mm bl mt cd AZ C hXw hret
  refine j_widen (k := 1) (n := 6) (Nat.zero_le _) (Nat.zero_le _) ?_
  refine j_iconst C dL_act_0 (v := nI 0) (by decide) ?_
  refine j_istore_n C dL_act_1 (by decide) ?_
  refine j_lv (lv2 := [(0, _), (1, _), (2, _), (3, _)]) rfl ?_
  refine j_iload_n C dL_act_2 rfl ?_
  refine j_bipush C dL_act_3 (v := nI 14) (by decide) ?_
  refine j_callS C (cl_low (by decide) (by decide)) dL_act_5 gL_act_L_low rfl ks_L_low rfl rfl (Nat.le_of_ble_eq_true rfl) ⟨by decide, by decide⟩ ⟨Nat.le_refl _, Nat.le_refl _⟩ (k_I ?_)
  refine j_top C (nI 2) (congrArg nI hk) ?_
  refine j_tableIn C dL_act_8 (off := 183) (tgt := 191) (by decide) (by decide) (by decide) (by decide) ?_
  refine j_aload_n C dL_act_191 rfl ?_
  refine j_iload_n C dL_act_192 rfl ?_
  refine j_bipush C dL_act_193 (v := nI 8) (by decide) ?_
  refine j_callS C (cl_low (by decide) (by decide)) dL_act_195 gL_act_L_low rfl ks_L_low rfl rfl (Nat.le_of_ble_eq_true rfl) ⟨by decide, by decide⟩ ⟨Nat.le_refl _, Nat.le_refl _⟩ (k_I ?_)
  refine j_iload_n C dL_act_198 rfl ?_
  refine j_bipush C dL_act_199 (v := nI 8) (by decide) ?_
  refine j_callS C (cl_low (by decide) (by decide)) dL_act_201 gL_act_L_low rfl ks_L_low rfl rfl (Nat.le_of_ble_eq_true rfl) ⟨by decide, by decide⟩ ⟨Nat.le_refl _, Nat.le_refl _⟩ (k_I ?_)
  refine j_iconst C dL_act_204 (v := nI 1) (by decide) ?_
  refine j_iaddN C dL_act_205 ?_
  refine j_iload_n C dL_act_206 rfl ?_
  refine j_iconst C dL_act_207 (v := nI 3) (by decide) ?_
  refine j_ishr C dL_act_208 ?_
  refine j_bipush C dL_act_209 (v := nI 7) (by decide) ?_
  refine j_callS C (cl_low (by decide) (by decide)) dL_act_211 gL_act_L_low rfl ks_L_low rfl rfl (Nat.le_of_ble_eq_true rfl) ⟨by decide, by decide⟩ ⟨Nat.le_refl _, Nat.le_refl _⟩ (k_I ?_)
  refine j_iaddN C dL_act_214 ?_
  refine j_bipush C dL_act_215 (v := nI 8) (by decide) ?_
  refine j_iremN C dL_act_217 (by omega) (by decide) (by decide) ?_
  refine j_callSH C (x_hng h (Nat.zero_le 5) ha (Nat.mod_lt _ (by decide)) (by omega)) dL_act_218 gL_act_L_hang rfl ks_L_hang rfl rfl (Nat.le_of_ble_eq_true rfl) ⟨by decide, by decide⟩ ⟨Nat.le_refl _, Nat.le_refl _⟩ (k_IQ fun M1 h1 => ?_)
  exact j_ireturn C hret dL_act_221 ⟨rfl, Or.inr ⟨ok_ad h44, _, h1⟩⟩

set_option maxHeartbeats 4000000 in
set_option maxRecDepth 100000 in
theorem cl_act_3 {l : Launch} {G : GG} {M : MM} {σ : Sg} {n : Nat} {x y : Int32} (h : Xs M σ n []) (hk : lw x 14 = 3)  : Cw l G yL_act wsL_act 13 ([.ref (G.2.2 72), .int (x), .int (y)] : List Value) M (fun v9 M9 => v9 = some (.int (adR σ)) ∧ ActP σ n (adR σ) M9) := by
  have hW := h.wf
  have h44 := hW.2.2.1
  have hn6 := h.n6
  have ha := lw_lt (v := y) (n := 8) (by decide)
  have hb := lw_lt (v := (y >>> (nI 3 &&& 31))) (n := 7) (by decide)
  refine Cw.ofC (cc := cL_act) (maxL := 7) (ret := (some .int)) (lv := [(0, .ref (G.2.2 72)), (1, .int (x)), (2, .int (y))]) (by decide) rfl rfl (Nat.le_of_ble_eq_true rfl) ?_
  intro pg ev sg mm bl mt cd AZ C hXw hret
  refine j_widen (k := 1) (n := 6) (Nat.zero_le _) (Nat.zero_le _) ?_
  refine j_iconst C dL_act_0 (v := nI 0) (by decide) ?_
  refine j_istore_n C dL_act_1 (by decide) ?_
  refine j_lv (lv2 := [(0, _), (1, _), (2, _), (3, _)]) rfl ?_
  refine j_iload_n C dL_act_2 rfl ?_
  refine j_bipush C dL_act_3 (v := nI 14) (by decide) ?_
  refine j_callS C (cl_low (by decide) (by decide)) dL_act_5 gL_act_L_low rfl ks_L_low rfl rfl (Nat.le_of_ble_eq_true rfl) ⟨by decide, by decide⟩ ⟨Nat.le_refl _, Nat.le_refl _⟩ (k_I ?_)
  refine j_top C (nI 3) (congrArg nI hk) ?_
  refine j_tableIn C dL_act_8 (off := 183) (tgt := 191) (by decide) (by decide) (by decide) (by decide) ?_
  refine j_aload_n C dL_act_191 rfl ?_
  refine j_iload_n C dL_act_192 rfl ?_
  refine j_bipush C dL_act_193 (v := nI 8) (by decide) ?_
  refine j_callS C (cl_low (by decide) (by decide)) dL_act_195 gL_act_L_low rfl ks_L_low rfl rfl (Nat.le_of_ble_eq_true rfl) ⟨by decide, by decide⟩ ⟨Nat.le_refl _, Nat.le_refl _⟩ (k_I ?_)
  refine j_iload_n C dL_act_198 rfl ?_
  refine j_bipush C dL_act_199 (v := nI 8) (by decide) ?_
  refine j_callS C (cl_low (by decide) (by decide)) dL_act_201 gL_act_L_low rfl ks_L_low rfl rfl (Nat.le_of_ble_eq_true rfl) ⟨by decide, by decide⟩ ⟨Nat.le_refl _, Nat.le_refl _⟩ (k_I ?_)
  refine j_iconst C dL_act_204 (v := nI 1) (by decide) ?_
  refine j_iaddN C dL_act_205 ?_
  refine j_iload_n C dL_act_206 rfl ?_
  refine j_iconst C dL_act_207 (v := nI 3) (by decide) ?_
  refine j_ishr C dL_act_208 ?_
  refine j_bipush C dL_act_209 (v := nI 7) (by decide) ?_
  refine j_callS C (cl_low (by decide) (by decide)) dL_act_211 gL_act_L_low rfl ks_L_low rfl rfl (Nat.le_of_ble_eq_true rfl) ⟨by decide, by decide⟩ ⟨Nat.le_refl _, Nat.le_refl _⟩ (k_I ?_)
  refine j_iaddN C dL_act_214 ?_
  refine j_bipush C dL_act_215 (v := nI 8) (by decide) ?_
  refine j_iremN C dL_act_217 (by omega) (by decide) (by decide) ?_
  refine j_callSH C (x_hng h (Nat.zero_le 5) ha (Nat.mod_lt _ (by decide)) (by omega)) dL_act_218 gL_act_L_hang rfl ks_L_hang rfl rfl (Nat.le_of_ble_eq_true rfl) ⟨by decide, by decide⟩ ⟨Nat.le_refl _, Nat.le_refl _⟩ (k_IQ fun M1 h1 => ?_)
  exact j_ireturn C hret dL_act_221 ⟨rfl, Or.inr ⟨ok_ad h44, _, h1⟩⟩

set_option maxHeartbeats 4000000 in
set_option maxRecDepth 100000 in
theorem cl_act_4a {l : Launch} {G : GG} {M : MM} {σ : Sg} {n : Nat} {x y : Int32} (h : Xs M σ n []) (hk : lw x 14 = 4) (hc : lw y 6 < σ 44) (hl : l.stackTraces = false) : Cw l G yL_act wsL_act 13 ([.ref (G.2.2 72), .int (x), .int (y)] : List Value) M (fun v9 M9 => v9 = some (.int (nI (popc (rdm σ (lw y 6))))) ∧ ActP σ n (nI (popc (rdm σ (lw y 6)))) M9) := by
  have hW := h.wf
  have h44 := hW.2.2.1
  have hn6 := h.n6
  refine Cw.ofC (cc := cL_act) (maxL := 7) (ret := (some .int)) (lv := [(0, .ref (G.2.2 72)), (1, .int (x)), (2, .int (y))]) (by decide) rfl rfl (Nat.le_of_ble_eq_true rfl) ?_
  intro pg ev sg mm bl mt cd AZ C hXw hret
  refine j_iconst C dL_act_0 (v := nI 0) (by decide) ?_
  refine j_istore_n C dL_act_1 (by decide) ?_
  refine j_lv (lv2 := [(0, _), (1, _), (2, _), (3, _)]) rfl ?_
  refine j_iload_n C dL_act_2 rfl ?_
  refine j_bipush C dL_act_3 (v := nI 14) (by decide) ?_
  refine j_callS C (cl_low (by decide) (by decide)) dL_act_5 gL_act_L_low rfl ks_L_low rfl rfl (Nat.le_of_ble_eq_true rfl) ⟨by decide, by decide⟩ ⟨Nat.zero_le _, Nat.zero_le _⟩ (k_I ?_)
  refine j_top C (nI 4) (congrArg nI hk) ?_
  refine j_tableIn C dL_act_8 (off := 214) (tgt := 222) (by decide) (by decide) (by decide) (by decide) ?_
  refine j_aload_n C dL_act_222 rfl ?_
  refine j_iload_n C dL_act_223 rfl ?_
  refine j_bipush C dL_act_224 (v := nI 6) (by decide) ?_
  refine j_callS C (cl_low (by decide) (by decide)) dL_act_226 gL_act_L_low rfl ks_L_low rfl rfl (Nat.le_of_ble_eq_true rfl) ⟨by decide, by decide⟩ ⟨Nat.zero_le _, Nat.zero_le _⟩ (k_I ?_)
  refine j_callSW C hXw (x_tkd h (Nat.zero_le 5) hc) dL_act_229 gL_act_L_takeDown rfl ks_L_takeDown rfl rfl (Nat.le_of_ble_eq_true rfl) ⟨by decide, by decide⟩ ⟨Nat.le_refl _, Nat.le_refl _⟩ (k_IQ fun M1 h1 => ?_)
  exact j_ireturn C hret dL_act_232 ⟨rfl, Or.inr ⟨ok_N (Nat.lt_of_le_of_lt (cntN_le _ 8) (by decide)), _, h1⟩⟩

set_option maxHeartbeats 4000000 in
set_option maxRecDepth 100000 in
theorem cl_act_4b {l : Launch} {G : GG} {M : MM} {σ : Sg} {n : Nat} {x y : Int32} (h : Xs M σ n []) (hk : lw x 14 = 4) (hc : σ 44 ≤ lw y 6) (hl : l.stackTraces = false) : Cw l G yL_act wsL_act 13 ([.ref (G.2.2 72), .int (x), .int (y)] : List Value) M (fun v9 M9 => v9 = some (.int (-1000001)) ∧ ActP σ n (-1000001) M9) := by
  have hW := h.wf
  have h44 := hW.2.2.1
  have hn6 := h.n6
  have ha := lw_lt (v := y) (n := 6) (by decide)
  refine Cw.ofC (cc := cL_act) (maxL := 7) (ret := (some .int)) (lv := [(0, .ref (G.2.2 72)), (1, .int (x)), (2, .int (y))]) (by decide) rfl rfl (Nat.le_of_ble_eq_true rfl) ?_
  intro pg ev sg mm bl mt cd AZ C hXw hret
  refine j_iconst C dL_act_0 (v := nI 0) (by decide) ?_
  refine j_istore_n C dL_act_1 (by decide) ?_
  refine j_lv (lv2 := [(0, _), (1, _), (2, _), (3, _)]) rfl ?_
  refine j_iload_n C dL_act_2 rfl ?_
  refine j_bipush C dL_act_3 (v := nI 14) (by decide) ?_
  refine j_callS C (cl_low (by decide) (by decide)) dL_act_5 gL_act_L_low rfl ks_L_low rfl rfl (Nat.le_of_ble_eq_true rfl) ⟨by decide, by decide⟩ ⟨Nat.zero_le _, Nat.zero_le _⟩ (k_I ?_)
  refine j_top C (nI 4) (congrArg nI hk) ?_
  refine j_tableIn C dL_act_8 (off := 214) (tgt := 222) (by decide) (by decide) (by decide) (by decide) ?_
  refine j_aload_n C dL_act_222 rfl ?_
  refine j_iload_n C dL_act_223 rfl ?_
  refine j_bipush C dL_act_224 (v := nI 6) (by decide) ?_
  refine j_callS C (cl_low (by decide) (by decide)) dL_act_226 gL_act_L_low rfl ks_L_low rfl rfl (Nat.le_of_ble_eq_true rfl) ⟨by decide, by decide⟩ ⟨Nat.zero_le _, Nat.zero_le _⟩ (k_I ?_)
  refine j_callSW C hXw (x_tkN h hl hc (by omega)) dL_act_229 gL_act_L_takeDown rfl ks_L_takeDown rfl rfl (Nat.le_of_ble_eq_true rfl) ⟨by decide, by decide⟩ ⟨Nat.le_refl _, Nat.le_refl _⟩ (k_IQ fun M1 h1 => ?_)
  exact j_ireturn C hret dL_act_232 ⟨rfl, Or.inl ⟨rfl, h1⟩⟩

set_option maxHeartbeats 4000000 in
set_option maxRecDepth 100000 in
theorem cl_act_5a {l : Launch} {G : GG} {M : MM} {σ : Sg} {n : Nat} {x y : Int32} (h : Xs M σ n []) (hk : lw x 14 = 5) (hc : lw y 6 < σ 44) (hl : l.stackTraces = false) : Cw l G yL_act wsL_act 13 ([.ref (G.2.2 72), .int (x), .int (y)] : List Value) M (fun v9 M9 => v9 = some (.int (lsR (mrk σ (lw (y >>> (nI 3 &&& 31)) 4) (lw y 6)))) ∧ ActP σ n (lsR (mrk σ (lw (y >>> (nI 3 &&& 31)) 4) (lw y 6))) M9) := by
  have hW := h.wf
  have h44 := hW.2.2.1
  have hn6 := h.n6
  have hb := lw_lt (v := (y >>> (nI 3 &&& 31))) (n := 4) (by decide)
  refine Cw.ofC (cc := cL_act) (maxL := 7) (ret := (some .int)) (lv := [(0, .ref (G.2.2 72)), (1, .int (x)), (2, .int (y))]) (by decide) rfl rfl (Nat.le_of_ble_eq_true rfl) ?_
  intro pg ev sg mm bl mt cd AZ C hXw hret
  refine j_iconst C dL_act_0 (v := nI 0) (by decide) ?_
  refine j_istore_n C dL_act_1 (by decide) ?_
  refine j_lv (lv2 := [(0, _), (1, _), (2, _), (3, _)]) rfl ?_
  refine j_iload_n C dL_act_2 rfl ?_
  refine j_bipush C dL_act_3 (v := nI 14) (by decide) ?_
  refine j_callS C (cl_low (by decide) (by decide)) dL_act_5 gL_act_L_low rfl ks_L_low rfl rfl (Nat.le_of_ble_eq_true rfl) ⟨by decide, by decide⟩ ⟨Nat.zero_le _, Nat.zero_le _⟩ (k_I ?_)
  refine j_top C (nI 5) (congrArg nI hk) ?_
  refine j_tableIn C dL_act_8 (off := 225) (tgt := 233) (by decide) (by decide) (by decide) (by decide) ?_
  refine j_aload_n C dL_act_233 rfl ?_
  refine j_iload_n C dL_act_234 rfl ?_
  refine j_bipush C dL_act_235 (v := nI 6) (by decide) ?_
  refine j_callS C (cl_low (by decide) (by decide)) dL_act_237 gL_act_L_low rfl ks_L_low rfl rfl (Nat.le_of_ble_eq_true rfl) ⟨by decide, by decide⟩ ⟨Nat.zero_le _, Nat.zero_le _⟩ (k_I ?_)
  refine j_iload_n C dL_act_240 rfl ?_
  refine j_iconst C dL_act_241 (v := nI 3) (by decide) ?_
  refine j_ishr C dL_act_242 ?_
  refine j_iconst C dL_act_243 (v := nI 4) (by decide) ?_
  refine j_callS C (cl_low (by decide) (by decide)) dL_act_244 gL_act_L_low rfl ks_L_low rfl rfl (Nat.le_of_ble_eq_true rfl) ⟨by decide, by decide⟩ ⟨Nat.zero_le _, Nat.zero_le _⟩ (k_I ?_)
  refine j_callSW C hXw (x_coX h (Nat.zero_le 5) rfl hc hb) dL_act_247 gL_act_L_correct rfl ks_L_correct rfl rfl (Nat.le_of_ble_eq_true rfl) ⟨by decide, by decide⟩ ⟨Nat.le_refl _, Nat.le_refl _⟩ (k_IQ fun M1 h1 => ?_)
  exact j_ireturn C hret dL_act_250 ⟨rfl, Or.inr ⟨ok_ls (nst_in _ _ _ _ 1000).1.2, _, h1⟩⟩

set_option maxHeartbeats 4000000 in
set_option maxRecDepth 100000 in
theorem cl_act_5b {l : Launch} {G : GG} {M : MM} {σ : Sg} {n : Nat} {x y : Int32} (h : Xs M σ n []) (hk : lw x 14 = 5) (hc : σ 44 ≤ lw y 6) (hl : l.stackTraces = false) : Cw l G yL_act wsL_act 13 ([.ref (G.2.2 72), .int (x), .int (y)] : List Value) M (fun v9 M9 => v9 = some (.int (-1000001)) ∧ ActP σ n (-1000001) M9) := by
  have hW := h.wf
  have h44 := hW.2.2.1
  have hn6 := h.n6
  have ha := lw_lt (v := y) (n := 6) (by decide)
  refine Cw.ofC (cc := cL_act) (maxL := 7) (ret := (some .int)) (lv := [(0, .ref (G.2.2 72)), (1, .int (x)), (2, .int (y))]) (by decide) rfl rfl (Nat.le_of_ble_eq_true rfl) ?_
  intro pg ev sg mm bl mt cd AZ C hXw hret
  refine j_iconst C dL_act_0 (v := nI 0) (by decide) ?_
  refine j_istore_n C dL_act_1 (by decide) ?_
  refine j_lv (lv2 := [(0, _), (1, _), (2, _), (3, _)]) rfl ?_
  refine j_iload_n C dL_act_2 rfl ?_
  refine j_bipush C dL_act_3 (v := nI 14) (by decide) ?_
  refine j_callS C (cl_low (by decide) (by decide)) dL_act_5 gL_act_L_low rfl ks_L_low rfl rfl (Nat.le_of_ble_eq_true rfl) ⟨by decide, by decide⟩ ⟨Nat.zero_le _, Nat.zero_le _⟩ (k_I ?_)
  refine j_top C (nI 5) (congrArg nI hk) ?_
  refine j_tableIn C dL_act_8 (off := 225) (tgt := 233) (by decide) (by decide) (by decide) (by decide) ?_
  refine j_aload_n C dL_act_233 rfl ?_
  refine j_iload_n C dL_act_234 rfl ?_
  refine j_bipush C dL_act_235 (v := nI 6) (by decide) ?_
  refine j_callS C (cl_low (by decide) (by decide)) dL_act_237 gL_act_L_low rfl ks_L_low rfl rfl (Nat.le_of_ble_eq_true rfl) ⟨by decide, by decide⟩ ⟨Nat.zero_le _, Nat.zero_le _⟩ (k_I ?_)
  refine j_iload_n C dL_act_240 rfl ?_
  refine j_iconst C dL_act_241 (v := nI 3) (by decide) ?_
  refine j_ishr C dL_act_242 ?_
  refine j_iconst C dL_act_243 (v := nI 4) (by decide) ?_
  refine j_callS C (cl_low (by decide) (by decide)) dL_act_244 gL_act_L_low rfl ks_L_low rfl rfl (Nat.le_of_ble_eq_true rfl) ⟨by decide, by decide⟩ ⟨Nat.zero_le _, Nat.zero_le _⟩ (k_I ?_)
  refine j_callSW C hXw (x_coN h hl hc (by omega)) dL_act_247 gL_act_L_correct rfl ks_L_correct rfl rfl (Nat.le_of_ble_eq_true rfl) ⟨by decide, by decide⟩ ⟨Nat.le_refl _, Nat.le_refl _⟩ (k_IQ fun M1 h1 => ?_)
  exact j_ireturn C hret dL_act_250 ⟨rfl, Or.inl ⟨rfl, h1⟩⟩

set_option maxHeartbeats 4000000 in
set_option maxRecDepth 100000 in
theorem cl_act_6a {l : Launch} {G : GG} {M : MM} {σ : Sg} {n : Nat} {x y : Int32} (h : Xs M σ n []) (hk : lw x 14 = 6) (hc : lw y 6 < σ 44) (hl : l.stackTraces = false) : Cw l G yL_act wsL_act 13 ([.ref (G.2.2 72), .int (x), .int (y)] : List Value) M (fun v9 M9 => v9 = some (.int (lsR (mrk σ (lw (y >>> (nI 3 &&& 31)) 4) (lw y 6)))) ∧ ActP σ n (lsR (mrk σ (lw (y >>> (nI 3 &&& 31)) 4) (lw y 6))) M9) := by
  have hW := h.wf
  have h44 := hW.2.2.1
  have hn6 := h.n6
  have hb := lw_lt (v := (y >>> (nI 3 &&& 31))) (n := 4) (by decide)
  refine Cw.ofC (cc := cL_act) (maxL := 7) (ret := (some .int)) (lv := [(0, .ref (G.2.2 72)), (1, .int (x)), (2, .int (y))]) (by decide) rfl rfl (Nat.le_of_ble_eq_true rfl) ?_
  intro pg ev sg mm bl mt cd AZ C hXw hret
  refine j_iconst C dL_act_0 (v := nI 0) (by decide) ?_
  refine j_istore_n C dL_act_1 (by decide) ?_
  refine j_lv (lv2 := [(0, _), (1, _), (2, _), (3, _)]) rfl ?_
  refine j_iload_n C dL_act_2 rfl ?_
  refine j_bipush C dL_act_3 (v := nI 14) (by decide) ?_
  refine j_callS C (cl_low (by decide) (by decide)) dL_act_5 gL_act_L_low rfl ks_L_low rfl rfl (Nat.le_of_ble_eq_true rfl) ⟨by decide, by decide⟩ ⟨Nat.zero_le _, Nat.zero_le _⟩ (k_I ?_)
  refine j_top C (nI 6) (congrArg nI hk) ?_
  refine j_tableIn C dL_act_8 (off := 225) (tgt := 233) (by decide) (by decide) (by decide) (by decide) ?_
  refine j_aload_n C dL_act_233 rfl ?_
  refine j_iload_n C dL_act_234 rfl ?_
  refine j_bipush C dL_act_235 (v := nI 6) (by decide) ?_
  refine j_callS C (cl_low (by decide) (by decide)) dL_act_237 gL_act_L_low rfl ks_L_low rfl rfl (Nat.le_of_ble_eq_true rfl) ⟨by decide, by decide⟩ ⟨Nat.zero_le _, Nat.zero_le _⟩ (k_I ?_)
  refine j_iload_n C dL_act_240 rfl ?_
  refine j_iconst C dL_act_241 (v := nI 3) (by decide) ?_
  refine j_ishr C dL_act_242 ?_
  refine j_iconst C dL_act_243 (v := nI 4) (by decide) ?_
  refine j_callS C (cl_low (by decide) (by decide)) dL_act_244 gL_act_L_low rfl ks_L_low rfl rfl (Nat.le_of_ble_eq_true rfl) ⟨by decide, by decide⟩ ⟨Nat.zero_le _, Nat.zero_le _⟩ (k_I ?_)
  refine j_callSW C hXw (x_coX h (Nat.zero_le 5) rfl hc hb) dL_act_247 gL_act_L_correct rfl ks_L_correct rfl rfl (Nat.le_of_ble_eq_true rfl) ⟨by decide, by decide⟩ ⟨Nat.le_refl _, Nat.le_refl _⟩ (k_IQ fun M1 h1 => ?_)
  exact j_ireturn C hret dL_act_250 ⟨rfl, Or.inr ⟨ok_ls (nst_in _ _ _ _ 1000).1.2, _, h1⟩⟩

set_option maxHeartbeats 4000000 in
set_option maxRecDepth 100000 in
theorem cl_act_6b {l : Launch} {G : GG} {M : MM} {σ : Sg} {n : Nat} {x y : Int32} (h : Xs M σ n []) (hk : lw x 14 = 6) (hc : σ 44 ≤ lw y 6) (hl : l.stackTraces = false) : Cw l G yL_act wsL_act 13 ([.ref (G.2.2 72), .int (x), .int (y)] : List Value) M (fun v9 M9 => v9 = some (.int (-1000001)) ∧ ActP σ n (-1000001) M9) := by
  have hW := h.wf
  have h44 := hW.2.2.1
  have hn6 := h.n6
  have ha := lw_lt (v := y) (n := 6) (by decide)
  refine Cw.ofC (cc := cL_act) (maxL := 7) (ret := (some .int)) (lv := [(0, .ref (G.2.2 72)), (1, .int (x)), (2, .int (y))]) (by decide) rfl rfl (Nat.le_of_ble_eq_true rfl) ?_
  intro pg ev sg mm bl mt cd AZ C hXw hret
  refine j_iconst C dL_act_0 (v := nI 0) (by decide) ?_
  refine j_istore_n C dL_act_1 (by decide) ?_
  refine j_lv (lv2 := [(0, _), (1, _), (2, _), (3, _)]) rfl ?_
  refine j_iload_n C dL_act_2 rfl ?_
  refine j_bipush C dL_act_3 (v := nI 14) (by decide) ?_
  refine j_callS C (cl_low (by decide) (by decide)) dL_act_5 gL_act_L_low rfl ks_L_low rfl rfl (Nat.le_of_ble_eq_true rfl) ⟨by decide, by decide⟩ ⟨Nat.zero_le _, Nat.zero_le _⟩ (k_I ?_)
  refine j_top C (nI 6) (congrArg nI hk) ?_
  refine j_tableIn C dL_act_8 (off := 225) (tgt := 233) (by decide) (by decide) (by decide) (by decide) ?_
  refine j_aload_n C dL_act_233 rfl ?_
  refine j_iload_n C dL_act_234 rfl ?_
  refine j_bipush C dL_act_235 (v := nI 6) (by decide) ?_
  refine j_callS C (cl_low (by decide) (by decide)) dL_act_237 gL_act_L_low rfl ks_L_low rfl rfl (Nat.le_of_ble_eq_true rfl) ⟨by decide, by decide⟩ ⟨Nat.zero_le _, Nat.zero_le _⟩ (k_I ?_)
  refine j_iload_n C dL_act_240 rfl ?_
  refine j_iconst C dL_act_241 (v := nI 3) (by decide) ?_
  refine j_ishr C dL_act_242 ?_
  refine j_iconst C dL_act_243 (v := nI 4) (by decide) ?_
  refine j_callS C (cl_low (by decide) (by decide)) dL_act_244 gL_act_L_low rfl ks_L_low rfl rfl (Nat.le_of_ble_eq_true rfl) ⟨by decide, by decide⟩ ⟨Nat.zero_le _, Nat.zero_le _⟩ (k_I ?_)
  refine j_callSW C hXw (x_coN h hl hc (by omega)) dL_act_247 gL_act_L_correct rfl ks_L_correct rfl rfl (Nat.le_of_ble_eq_true rfl) ⟨by decide, by decide⟩ ⟨Nat.le_refl _, Nat.le_refl _⟩ (k_IQ fun M1 h1 => ?_)
  exact j_ireturn C hret dL_act_250 ⟨rfl, Or.inl ⟨rfl, h1⟩⟩

set_option maxHeartbeats 4000000 in
set_option maxRecDepth 100000 in
theorem cl_act_7 {l : Launch} {G : GG} {M : MM} {σ : Sg} {n : Nat} {x y : Int32} (h : Xs M σ n []) (hk : lw x 14 = 7)  : Cw l G yL_act wsL_act 13 ([.ref (G.2.2 72), .int (x), .int (y)] : List Value) M (fun v9 M9 => v9 = some (.int (nI (popc (lmask (lbS σ (lw y 4) 8))))) ∧ ActP σ n (nI (popc (lmask (lbS σ (lw y 4) 8)))) M9) := by
  have hW := h.wf
  have h44 := hW.2.2.1
  have hn6 := h.n6
  have ha := lw_lt (v := y) (n := 4) (by decide)
  refine Cw.ofC (cc := cL_act) (maxL := 7) (ret := (some .int)) (lv := [(0, .ref (G.2.2 72)), (1, .int (x)), (2, .int (y))]) (by decide) rfl rfl (Nat.le_of_ble_eq_true rfl) ?_
  intro pg ev sg mm bl mt cd AZ C hXw hret
  refine j_widen (k := 1) (n := 6) (Nat.zero_le _) (Nat.zero_le _) ?_
  refine j_iconst C dL_act_0 (v := nI 0) (by decide) ?_
  refine j_istore_n C dL_act_1 (by decide) ?_
  refine j_lv (lv2 := [(0, _), (1, _), (2, _), (3, _)]) rfl ?_
  refine j_iload_n C dL_act_2 rfl ?_
  refine j_bipush C dL_act_3 (v := nI 14) (by decide) ?_
  refine j_callS C (cl_low (by decide) (by decide)) dL_act_5 gL_act_L_low rfl ks_L_low rfl rfl (Nat.le_of_ble_eq_true rfl) ⟨by decide, by decide⟩ ⟨Nat.le_refl _, Nat.le_refl _⟩ (k_I ?_)
  refine j_top C (nI 7) (congrArg nI hk) ?_
  refine j_tableIn C dL_act_8 (off := 243) (tgt := 251) (by decide) (by decide) (by decide) (by decide) ?_
  refine j_aload_n C dL_act_251 rfl ?_
  refine j_iload_n C dL_act_252 rfl ?_
  refine j_iconst C dL_act_253 (v := nI 4) (by decide) ?_
  refine j_callS C (cl_low (by decide) (by decide)) dL_act_254 gL_act_L_low rfl ks_L_low rfl rfl (Nat.le_of_ble_eq_true rfl) ⟨by decide, by decide⟩ ⟨Nat.le_refl _, Nat.le_refl _⟩ (k_I ?_)
  refine j_callSH C (x_lba h (Nat.zero_le 5) ha) dL_act_257 gL_act_L_labelAll rfl ks_L_labelAll rfl rfl (Nat.le_of_ble_eq_true rfl) ⟨by decide, by decide⟩ ⟨Nat.le_refl _, Nat.le_refl _⟩ (k_IQ fun M1 h1 => ?_)
  exact j_ireturn C hret dL_act_260 ⟨rfl, Or.inr ⟨ok_N (Nat.lt_of_le_of_lt (cntN_le _ 8) (by decide)), _, h1⟩⟩

theorem lab_m1 {a : Nat} (h : a < 2 ^ 31) : nI a - nI 1 = oI a := by
  cases a with
  | zero => decide
  | succ k => rw [pk_sub (by omega)]; rfl

set_option maxHeartbeats 4000000 in
set_option maxRecDepth 100000 in
theorem cl_act_8 {l : Launch} {G : GG} {M : MM} {σ : Sg} {n : Nat} {x y : Int32} (h : Xs M σ n []) (hk : lw x 14 = 8)  : Cw l G yL_act wsL_act 13 ([.ref (G.2.2 72), .int (x), .int (y)] : List Value) M (fun v9 M9 => v9 = some (.int (oI (σ (4 * lw y 8 + 3)))) ∧ ActP σ n (oI (σ (4 * lw y 8 + 3))) M9) := by
  have hW := h.wf
  have h44 := hW.2.2.1
  have hn6 := h.n6
  have ha := lw_lt (v := y) (n := 8) (by decide)
  have hb := lw_lt (v := (y >>> (nI 3 &&& 31))) (n := 9) (by decide)
  refine Cw.ofC (cc := cL_act) (maxL := 7) (ret := (some .int)) (lv := [(0, .ref (G.2.2 72)), (1, .int (x)), (2, .int (y))]) (by decide) rfl rfl (Nat.le_of_ble_eq_true rfl) ?_
  intro pg ev sg mm bl mt cd AZ C hXw hret
  refine j_widen (k := 1) (n := 6) (Nat.zero_le _) (Nat.zero_le _) ?_
  refine j_iconst C dL_act_0 (v := nI 0) (by decide) ?_
  refine j_istore_n C dL_act_1 (by decide) ?_
  refine j_lv (lv2 := [(0, _), (1, _), (2, _), (3, _)]) rfl ?_
  refine j_iload_n C dL_act_2 rfl ?_
  refine j_bipush C dL_act_3 (v := nI 14) (by decide) ?_
  refine j_callS C (cl_low (by decide) (by decide)) dL_act_5 gL_act_L_low rfl ks_L_low rfl rfl (Nat.le_of_ble_eq_true rfl) ⟨by decide, by decide⟩ ⟨Nat.le_refl _, Nat.le_refl _⟩ (k_I ?_)
  refine j_top C (nI 8) (congrArg nI hk) ?_
  refine j_tableIn C dL_act_8 (off := 253) (tgt := 261) (by decide) (by decide) (by decide) (by decide) ?_
  refine j_aload_n C dL_act_261 rfl ?_
  refine j_iload_n C dL_act_262 rfl ?_
  refine j_bipush C dL_act_263 (v := nI 8) (by decide) ?_
  refine j_callS C (cl_low (by decide) (by decide)) dL_act_265 gL_act_L_low rfl ks_L_low rfl rfl (Nat.le_of_ble_eq_true rfl) ⟨by decide, by decide⟩ ⟨Nat.le_refl _, Nat.le_refl _⟩ (k_I ?_)
  refine j_iload_n C dL_act_268 rfl ?_
  refine j_iconst C dL_act_269 (v := nI 3) (by decide) ?_
  refine j_ishr C dL_act_270 ?_
  refine j_bipush C dL_act_271 (v := nI 9) (by decide) ?_
  refine j_callS C (cl_low (by decide) (by decide)) dL_act_273 gL_act_L_low rfl ks_L_low rfl rfl (Nat.le_of_ble_eq_true rfl) ⟨by decide, by decide⟩ ⟨Nat.le_refl _, Nat.le_refl _⟩ (k_I ?_)
  refine j_iconst C dL_act_276 (v := nI 1) (by decide) ?_
  refine j_isub C dL_act_277 ?_
  refine j_top C (oI (lw (y >>> (nI 3 &&& 31)) 9)) (lab_m1 (by omega)) ?_
  refine j_callSH C (x_lbl h (Nat.zero_le 5) ha (by omega)) dL_act_278 gL_act_L_label rfl ks_L_label rfl rfl (Nat.le_of_ble_eq_true rfl) ⟨by decide, by decide⟩ ⟨Nat.le_refl _, Nat.le_refl _⟩ (k_IQ fun M1 h1 => ?_)
  exact j_ireturn C hret dL_act_281 ⟨rfl, Or.inr ⟨ok_O (by have := (hW.1 _ ha).2.2.2; omega), _, h1⟩⟩

set_option maxHeartbeats 4000000 in
set_option maxRecDepth 100000 in
theorem cl_act_9 {l : Launch} {G : GG} {M : MM} {σ : Sg} {n : Nat} {x y : Int32} (h : Xs M σ n []) (hk : lw x 14 = 9)  : Cw l G yL_act wsL_act 13 ([.ref (G.2.2 72), .int (x), .int (y)] : List Value) M (fun v9 M9 => v9 = some (.int (oI (σ (34 + 3 * lw y 4)))) ∧ ActP σ n (oI (σ (34 + 3 * lw y 4))) M9) := by
  have hW := h.wf
  have h44 := hW.2.2.1
  have hn6 := h.n6
  have ha := lw_lt (v := y) (n := 4) (by decide)
  have hb := lw_lt (v := (y >>> (nI 2 &&& 31))) (n := 4) (by decide)
  refine Cw.ofC (cc := cL_act) (maxL := 7) (ret := (some .int)) (lv := [(0, .ref (G.2.2 72)), (1, .int (x)), (2, .int (y))]) (by decide) rfl rfl (Nat.le_of_ble_eq_true rfl) ?_
  intro pg ev sg mm bl mt cd AZ C hXw hret
  refine j_widen (k := 1) (n := 6) (Nat.zero_le _) (Nat.zero_le _) ?_
  refine j_iconst C dL_act_0 (v := nI 0) (by decide) ?_
  refine j_istore_n C dL_act_1 (by decide) ?_
  refine j_lv (lv2 := [(0, _), (1, _), (2, _), (3, _)]) rfl ?_
  refine j_iload_n C dL_act_2 rfl ?_
  refine j_bipush C dL_act_3 (v := nI 14) (by decide) ?_
  refine j_callS C (cl_low (by decide) (by decide)) dL_act_5 gL_act_L_low rfl ks_L_low rfl rfl (Nat.le_of_ble_eq_true rfl) ⟨by decide, by decide⟩ ⟨Nat.le_refl _, Nat.le_refl _⟩ (k_I ?_)
  refine j_top C (nI 9) (congrArg nI hk) ?_
  refine j_tableIn C dL_act_8 (off := 274) (tgt := 282) (by decide) (by decide) (by decide) (by decide) ?_
  refine j_aload_n C dL_act_282 rfl ?_
  refine j_iload_n C dL_act_283 rfl ?_
  refine j_iconst C dL_act_284 (v := nI 4) (by decide) ?_
  refine j_callS C (cl_low (by decide) (by decide)) dL_act_285 gL_act_L_low rfl ks_L_low rfl rfl (Nat.le_of_ble_eq_true rfl) ⟨by decide, by decide⟩ ⟨Nat.le_refl _, Nat.le_refl _⟩ (k_I ?_)
  refine j_iload_n C dL_act_288 rfl ?_
  refine j_iconst C dL_act_289 (v := nI 2) (by decide) ?_
  refine j_ishr C dL_act_290 ?_
  refine j_iconst C dL_act_291 (v := nI 4) (by decide) ?_
  refine j_callS C (cl_low (by decide) (by decide)) dL_act_292 gL_act_L_low rfl ks_L_low rfl rfl (Nat.le_of_ble_eq_true rfl) ⟨by decide, by decide⟩ ⟨Nat.le_refl _, Nat.le_refl _⟩ (k_I ?_)
  refine j_callSH C (x_bor h (Nat.zero_le 5) ha hb) dL_act_295 gL_act_L_borrow rfl ks_L_borrow rfl rfl (Nat.le_of_ble_eq_true rfl) ⟨by decide, by decide⟩ ⟨Nat.le_refl _, Nat.le_refl _⟩ (k_IQ fun M1 h1 => ?_)
  exact j_ireturn C hret dL_act_298 ⟨rfl, Or.inr ⟨ok_O (by have := (hW.2.1 _ ha).2.2; omega), _, h1⟩⟩

set_option maxHeartbeats 4000000 in
set_option maxRecDepth 100000 in
theorem cl_act_10 {l : Launch} {G : GG} {M : MM} {σ : Sg} {n : Nat} {x y : Int32} (h : Xs M σ n []) (hk : lw x 14 = 10)  : Cw l G yL_act wsL_act 13 ([.ref (G.2.2 72), .int (x), .int (y)] : List Value) M (fun v9 M9 => v9 = some (.int (nI (σ (32 + 3 * lw y 4)))) ∧ ActP σ n (nI (σ (32 + 3 * lw y 4))) M9) := by
  have hW := h.wf
  have h44 := hW.2.2.1
  have hn6 := h.n6
  have ha := lw_lt (v := y) (n := 4) (by decide)
  have hb := lw_lt (v := (y >>> (nI 2 &&& 31))) (n := 4) (by decide)
  refine Cw.ofC (cc := cL_act) (maxL := 7) (ret := (some .int)) (lv := [(0, .ref (G.2.2 72)), (1, .int (x)), (2, .int (y))]) (by decide) rfl rfl (Nat.le_of_ble_eq_true rfl) ?_
  intro pg ev sg mm bl mt cd AZ C hXw hret
  refine j_widen (k := 1) (n := 6) (Nat.zero_le _) (Nat.zero_le _) ?_
  refine j_iconst C dL_act_0 (v := nI 0) (by decide) ?_
  refine j_istore_n C dL_act_1 (by decide) ?_
  refine j_lv (lv2 := [(0, _), (1, _), (2, _), (3, _)]) rfl ?_
  refine j_iload_n C dL_act_2 rfl ?_
  refine j_bipush C dL_act_3 (v := nI 14) (by decide) ?_
  refine j_callS C (cl_low (by decide) (by decide)) dL_act_5 gL_act_L_low rfl ks_L_low rfl rfl (Nat.le_of_ble_eq_true rfl) ⟨by decide, by decide⟩ ⟨Nat.le_refl _, Nat.le_refl _⟩ (k_I ?_)
  refine j_top C (nI 10) (congrArg nI hk) ?_
  refine j_tableIn C dL_act_8 (off := 291) (tgt := 299) (by decide) (by decide) (by decide) (by decide) ?_
  refine j_aload_n C dL_act_299 rfl ?_
  refine j_iload_n C dL_act_300 rfl ?_
  refine j_iconst C dL_act_301 (v := nI 4) (by decide) ?_
  refine j_callS C (cl_low (by decide) (by decide)) dL_act_302 gL_act_L_low rfl ks_L_low rfl rfl (Nat.le_of_ble_eq_true rfl) ⟨by decide, by decide⟩ ⟨Nat.le_refl _, Nat.le_refl _⟩ (k_I ?_)
  refine j_iconst C dL_act_305 (v := nI 0) (by decide) ?_
  refine j_iload_n C dL_act_306 rfl ?_
  refine j_iconst C dL_act_307 (v := nI 2) (by decide) ?_
  refine j_ishr C dL_act_308 ?_
  refine j_iconst C dL_act_309 (v := nI 4) (by decide) ?_
  refine j_callS C (cl_low (by decide) (by decide)) dL_act_310 gL_act_L_low rfl ks_L_low rfl rfl (Nat.le_of_ble_eq_true rfl) ⟨by decide, by decide⟩ ⟨Nat.le_refl _, Nat.le_refl _⟩ (k_I ?_)
  refine j_callSH C (x_pa0 h (Nat.zero_le 5) ha (by omega)) dL_act_313 gL_act_L_painter rfl ks_L_painter rfl rfl (Nat.le_of_ble_eq_true rfl) ⟨by decide, by decide⟩ ⟨Nat.le_refl _, Nat.le_refl _⟩ (k_IQ fun M1 h1 => ?_)
  exact j_ireturn C hret dL_act_316 ⟨rfl, Or.inr ⟨ok_N (by have := (hW.2.1 _ ha).1; omega), _, h1⟩⟩

set_option maxHeartbeats 4000000 in
set_option maxRecDepth 100000 in
theorem cl_act_11 {l : Launch} {G : GG} {M : MM} {σ : Sg} {n : Nat} {x y : Int32} (h : Xs M σ n []) (hk : lw x 14 = 11)  : Cw l G yL_act wsL_act 13 ([.ref (G.2.2 72), .int (x), .int (y)] : List Value) M (fun v9 M9 => v9 = some (.int (nI (σ (33 + 3 * lw y 4)))) ∧ ActP σ n (nI (σ (33 + 3 * lw y 4))) M9) := by
  have hW := h.wf
  have h44 := hW.2.2.1
  have hn6 := h.n6
  have ha := lw_lt (v := y) (n := 4) (by decide)
  have hb := lw_lt (v := (y >>> (nI 2 &&& 31))) (n := 12) (by decide)
  refine Cw.ofC (cc := cL_act) (maxL := 7) (ret := (some .int)) (lv := [(0, .ref (G.2.2 72)), (1, .int (x)), (2, .int (y))]) (by decide) rfl rfl (Nat.le_of_ble_eq_true rfl) ?_
  intro pg ev sg mm bl mt cd AZ C hXw hret
  refine j_widen (k := 1) (n := 6) (Nat.zero_le _) (Nat.zero_le _) ?_
  refine j_iconst C dL_act_0 (v := nI 0) (by decide) ?_
  refine j_istore_n C dL_act_1 (by decide) ?_
  refine j_lv (lv2 := [(0, _), (1, _), (2, _), (3, _)]) rfl ?_
  refine j_iload_n C dL_act_2 rfl ?_
  refine j_bipush C dL_act_3 (v := nI 14) (by decide) ?_
  refine j_callS C (cl_low (by decide) (by decide)) dL_act_5 gL_act_L_low rfl ks_L_low rfl rfl (Nat.le_of_ble_eq_true rfl) ⟨by decide, by decide⟩ ⟨Nat.le_refl _, Nat.le_refl _⟩ (k_I ?_)
  refine j_top C (nI 11) (congrArg nI hk) ?_
  refine j_tableIn C dL_act_8 (off := 309) (tgt := 317) (by decide) (by decide) (by decide) (by decide) ?_
  refine j_aload_n C dL_act_317 rfl ?_
  refine j_iload_n C dL_act_318 rfl ?_
  refine j_iconst C dL_act_319 (v := nI 4) (by decide) ?_
  refine j_callS C (cl_low (by decide) (by decide)) dL_act_320 gL_act_L_low rfl ks_L_low rfl rfl (Nat.le_of_ble_eq_true rfl) ⟨by decide, by decide⟩ ⟨Nat.le_refl _, Nat.le_refl _⟩ (k_I ?_)
  refine j_iconst C dL_act_323 (v := nI 1) (by decide) ?_
  refine j_iload_n C dL_act_324 rfl ?_
  refine j_iconst C dL_act_325 (v := nI 2) (by decide) ?_
  refine j_ishr C dL_act_326 ?_
  refine j_bipush C dL_act_327 (v := nI 12) (by decide) ?_
  refine j_callS C (cl_low (by decide) (by decide)) dL_act_329 gL_act_L_low rfl ks_L_low rfl rfl (Nat.le_of_ble_eq_true rfl) ⟨by decide, by decide⟩ ⟨Nat.le_refl _, Nat.le_refl _⟩ (k_I ?_)
  refine j_callSH C (x_pa1 h (Nat.zero_le 5) ha (by omega)) dL_act_332 gL_act_L_painter rfl ks_L_painter rfl rfl (Nat.le_of_ble_eq_true rfl) ⟨by decide, by decide⟩ ⟨Nat.le_refl _, Nat.le_refl _⟩ (k_IQ fun M1 h1 => ?_)
  exact j_ireturn C hret dL_act_335 ⟨rfl, Or.inr ⟨ok_N (by have := (hW.2.1 _ ha).2.1; omega), _, h1⟩⟩

set_option maxHeartbeats 4000000 in
set_option maxRecDepth 100000 in
theorem cl_act_12 {l : Launch} {G : GG} {M : MM} {σ : Sg} {n : Nat} {x y : Int32} (h : Xs M σ n []) (hk : lw x 14 = 12)  : Cw l G yL_act wsL_act 13 ([.ref (G.2.2 72), .int (x), .int (y)] : List Value) M (fun v9 M9 => v9 = some (.int (nI (pr3 (lw y 3) (σ (4 * lw (x >>> (nI 4 &&& 31)) 8)) (σ (4 * lw (x >>> (nI 4 &&& 31)) 8 + 1)) (σ (4 * lw (x >>> (nI 4 &&& 31)) 8 + 2))))) ∧ ActP σ n (nI (pr3 (lw y 3) (σ (4 * lw (x >>> (nI 4 &&& 31)) 8)) (σ (4 * lw (x >>> (nI 4 &&& 31)) 8 + 1)) (σ (4 * lw (x >>> (nI 4 &&& 31)) 8 + 2)))) M9) := by
  have hW := h.wf
  have h44 := hW.2.2.1
  have hn6 := h.n6
  have ha := lw_lt (v := (x >>> (nI 4 &&& 31))) (n := 8) (by decide)
  have hb := lw_lt (v := y) (n := 3) (by decide)
  have hc := lw_lt (v := (y >>> (nI 2 &&& 31))) (n := 10) (by decide)
  refine Cw.ofC (cc := cL_act) (maxL := 7) (ret := (some .int)) (lv := [(0, .ref (G.2.2 72)), (1, .int (x)), (2, .int (y))]) (by decide) rfl rfl (Nat.le_of_ble_eq_true rfl) ?_
  intro pg ev sg mm bl mt cd AZ C hXw hret
  refine j_widen (k := 1) (n := 6) (Nat.zero_le _) (Nat.zero_le _) ?_
  refine j_iconst C dL_act_0 (v := nI 0) (by decide) ?_
  refine j_istore_n C dL_act_1 (by decide) ?_
  refine j_lv (lv2 := [(0, _), (1, _), (2, _), (3, _)]) rfl ?_
  refine j_iload_n C dL_act_2 rfl ?_
  refine j_bipush C dL_act_3 (v := nI 14) (by decide) ?_
  refine j_callS C (cl_low (by decide) (by decide)) dL_act_5 gL_act_L_low rfl ks_L_low rfl rfl (Nat.le_of_ble_eq_true rfl) ⟨by decide, by decide⟩ ⟨Nat.le_refl _, Nat.le_refl _⟩ (k_I ?_)
  refine j_top C (nI 12) (congrArg nI hk) ?_
  refine j_tableOut C dL_act_8 (tgt := 336) (by decide) (by decide) ?_
  refine j_aload_n C dL_act_336 rfl ?_
  refine j_iload_n C dL_act_337 rfl ?_
  refine j_iconst C dL_act_338 (v := nI 4) (by decide) ?_
  refine j_ishr C dL_act_339 ?_
  refine j_bipush C dL_act_340 (v := nI 8) (by decide) ?_
  refine j_callS C (cl_low (by decide) (by decide)) dL_act_342 gL_act_L_low rfl ks_L_low rfl rfl (Nat.le_of_ble_eq_true rfl) ⟨by decide, by decide⟩ ⟨Nat.le_refl _, Nat.le_refl _⟩ (k_I ?_)
  refine j_iload_n C dL_act_345 rfl ?_
  refine j_iconst C dL_act_346 (v := nI 3) (by decide) ?_
  refine j_callS C (cl_low (by decide) (by decide)) dL_act_347 gL_act_L_low rfl ks_L_low rfl rfl (Nat.le_of_ble_eq_true rfl) ⟨by decide, by decide⟩ ⟨Nat.le_refl _, Nat.le_refl _⟩ (k_I ?_)
  refine j_iload_n C dL_act_350 rfl ?_
  refine j_iconst C dL_act_351 (v := nI 2) (by decide) ?_
  refine j_ishr C dL_act_352 ?_
  refine j_bipush C dL_act_353 (v := nI 10) (by decide) ?_
  refine j_callS C (cl_low (by decide) (by decide)) dL_act_355 gL_act_L_low rfl ks_L_low rfl rfl (Nat.le_of_ble_eq_true rfl) ⟨by decide, by decide⟩ ⟨Nat.le_refl _, Nat.le_refl _⟩ (k_I ?_)
  refine j_callSH C (x_mix h (Nat.zero_le 5) ha (by omega) (by omega)) dL_act_358 gL_act_L_mix rfl ks_L_mix rfl rfl (Nat.le_of_ble_eq_true rfl) ⟨by decide, by decide⟩ ⟨Nat.le_refl _, Nat.le_refl _⟩ (k_IQ fun M1 h1 => ?_)
  exact j_ireturn C hret dL_act_361 ⟨rfl, Or.inr ⟨ok_N (Nat.lt_of_le_of_lt (pr3_le (hW.1 _ ha).1 (hW.1 _ ha).2.1 (hW.1 _ ha).2.2.1) (by decide)), _, h1⟩⟩

set_option maxHeartbeats 4000000 in
set_option maxRecDepth 100000 in
theorem cl_act_13 {l : Launch} {G : GG} {M : MM} {σ : Sg} {n : Nat} {x y : Int32} (h : Xs M σ n []) (hk : lw x 14 = 13)  : Cw l G yL_act wsL_act 13 ([.ref (G.2.2 72), .int (x), .int (y)] : List Value) M (fun v9 M9 => v9 = some (.int (nI (pr3 (lw y 3) (σ (4 * lw (x >>> (nI 4 &&& 31)) 8)) (σ (4 * lw (x >>> (nI 4 &&& 31)) 8 + 1)) (σ (4 * lw (x >>> (nI 4 &&& 31)) 8 + 2))))) ∧ ActP σ n (nI (pr3 (lw y 3) (σ (4 * lw (x >>> (nI 4 &&& 31)) 8)) (σ (4 * lw (x >>> (nI 4 &&& 31)) 8 + 1)) (σ (4 * lw (x >>> (nI 4 &&& 31)) 8 + 2)))) M9) := by
  have hW := h.wf
  have h44 := hW.2.2.1
  have hn6 := h.n6
  have ha := lw_lt (v := (x >>> (nI 4 &&& 31))) (n := 8) (by decide)
  have hb := lw_lt (v := y) (n := 3) (by decide)
  have hc := lw_lt (v := (y >>> (nI 2 &&& 31))) (n := 10) (by decide)
  refine Cw.ofC (cc := cL_act) (maxL := 7) (ret := (some .int)) (lv := [(0, .ref (G.2.2 72)), (1, .int (x)), (2, .int (y))]) (by decide) rfl rfl (Nat.le_of_ble_eq_true rfl) ?_
  intro pg ev sg mm bl mt cd AZ C hXw hret
  refine j_widen (k := 1) (n := 6) (Nat.zero_le _) (Nat.zero_le _) ?_
  refine j_iconst C dL_act_0 (v := nI 0) (by decide) ?_
  refine j_istore_n C dL_act_1 (by decide) ?_
  refine j_lv (lv2 := [(0, _), (1, _), (2, _), (3, _)]) rfl ?_
  refine j_iload_n C dL_act_2 rfl ?_
  refine j_bipush C dL_act_3 (v := nI 14) (by decide) ?_
  refine j_callS C (cl_low (by decide) (by decide)) dL_act_5 gL_act_L_low rfl ks_L_low rfl rfl (Nat.le_of_ble_eq_true rfl) ⟨by decide, by decide⟩ ⟨Nat.le_refl _, Nat.le_refl _⟩ (k_I ?_)
  refine j_top C (nI 13) (congrArg nI hk) ?_
  refine j_tableOut C dL_act_8 (tgt := 336) (by decide) (by decide) ?_
  refine j_aload_n C dL_act_336 rfl ?_
  refine j_iload_n C dL_act_337 rfl ?_
  refine j_iconst C dL_act_338 (v := nI 4) (by decide) ?_
  refine j_ishr C dL_act_339 ?_
  refine j_bipush C dL_act_340 (v := nI 8) (by decide) ?_
  refine j_callS C (cl_low (by decide) (by decide)) dL_act_342 gL_act_L_low rfl ks_L_low rfl rfl (Nat.le_of_ble_eq_true rfl) ⟨by decide, by decide⟩ ⟨Nat.le_refl _, Nat.le_refl _⟩ (k_I ?_)
  refine j_iload_n C dL_act_345 rfl ?_
  refine j_iconst C dL_act_346 (v := nI 3) (by decide) ?_
  refine j_callS C (cl_low (by decide) (by decide)) dL_act_347 gL_act_L_low rfl ks_L_low rfl rfl (Nat.le_of_ble_eq_true rfl) ⟨by decide, by decide⟩ ⟨Nat.le_refl _, Nat.le_refl _⟩ (k_I ?_)
  refine j_iload_n C dL_act_350 rfl ?_
  refine j_iconst C dL_act_351 (v := nI 2) (by decide) ?_
  refine j_ishr C dL_act_352 ?_
  refine j_bipush C dL_act_353 (v := nI 10) (by decide) ?_
  refine j_callS C (cl_low (by decide) (by decide)) dL_act_355 gL_act_L_low rfl ks_L_low rfl rfl (Nat.le_of_ble_eq_true rfl) ⟨by decide, by decide⟩ ⟨Nat.le_refl _, Nat.le_refl _⟩ (k_I ?_)
  refine j_callSH C (x_mix h (Nat.zero_le 5) ha (by omega) (by omega)) dL_act_358 gL_act_L_mix rfl ks_L_mix rfl rfl (Nat.le_of_ble_eq_true rfl) ⟨by decide, by decide⟩ ⟨Nat.le_refl _, Nat.le_refl _⟩ (k_IQ fun M1 h1 => ?_)
  exact j_ireturn C hret dL_act_361 ⟨rfl, Or.inr ⟨ok_N (Nat.lt_of_le_of_lt (pr3_le (hW.1 _ ha).1 (hW.1 _ ha).2.1 (hW.1 _ ha).2.2.1) (by decide)), _, h1⟩⟩

set_option maxHeartbeats 4000000 in
set_option maxRecDepth 100000 in
theorem cl_act_0 {l : Launch} {G : GG} {M : MM} {σ : Sg} {n : Nat} {x y : Int32} (h : Xs M σ n []) (hk : lw x 14 = 0)  : Cw l G yL_act wsL_act 13 ([.ref (G.2.2 72), .int (x), .int (y)] : List Value) M (fun v9 M9 => v9 = some (.int (nI (pr (gvS σ (actT x y) (1 + lw (x >>> (nI 4 &&& 31)) 8)) 0))) ∧ ActP σ n (nI (pr (gvS σ (actT x y) (1 + lw (x >>> (nI 4 &&& 31)) 8)) 0)) M9) := by
  have hW := h.wf
  have h44 := hW.2.2.1
  have hn6 := h.n6
  have hm := lw_lt (v := (x >>> (nI 4 &&& 31))) (n := 8) (by decide)
  obtain ⟨m9, hm9⟩ : ∃ m9, 1 + lw (x >>> (nI 4 &&& 31)) 8 = m9 := ⟨_, rfl⟩
  refine Cw.ofC (cc := cL_act) (maxL := 7) (ret := (some .int)) (lv := [(0, .ref (G.2.2 72)), (1, .int (x)), (2, .int (y))]) (by decide) rfl rfl (Nat.le_of_ble_eq_true rfl) ?_
  intro pg ev sg mm bl mt cd AZ C hXw hret
  refine j_iconst C dL_act_0 (v := nI 0) (by decide) ?_
  refine j_istore_n C dL_act_1 (by decide) ?_
  refine j_lv (lv2 := [(0, _), (1, _), (2, _), (3, _)]) rfl ?_
  refine j_iload_n C dL_act_2 rfl ?_
  refine j_bipush C dL_act_3 (v := nI 14) (by decide) ?_
  refine j_callS C (cl_low (by decide) (by decide)) dL_act_5 gL_act_L_low rfl ks_L_low rfl rfl (Nat.le_of_ble_eq_true rfl) ⟨by decide, by decide⟩ ⟨Nat.zero_le _, Nat.zero_le _⟩ (k_I ?_)
  refine j_top C (nI 0) (congrArg nI hk) ?_
  refine j_tableIn C dL_act_8 (off := 64) (tgt := 72) (by decide) (by decide) (by decide) (by decide) ?_
  refine j_iconst C dL_act_72 (v := nI 1) (by decide) ?_
  refine j_iload_n C dL_act_73 rfl ?_
  refine j_iconst C dL_act_74 (v := nI 4) (by decide) ?_
  refine j_ishr C dL_act_75 ?_
  refine j_bipush C dL_act_76 (v := nI 8) (by decide) ?_
  refine j_callS C (cl_low (by decide) (by decide)) dL_act_78 gL_act_L_low rfl ks_L_low rfl rfl (Nat.le_of_ble_eq_true rfl) ⟨by decide, by decide⟩ ⟨Nat.zero_le _, Nat.zero_le _⟩ (k_I ?_)
  refine j_iaddN C dL_act_81 ?_
  refine j_top C (nI m9) (congrArg nI hm9) ?_
  refine j_istore C dL_act_82 (by decide) ?_
  refine j_lv (lv2 := [(0, _), (1, _), (2, _), (3, _), (4, _)]) rfl ?_
  refine j_aload_n C dL_act_84 rfl ?_
  refine j_callV C (x_clr h) dL_act_85 rfl (by decide) (T := TX5) rfl gL_act_X5_clearBuffer rfl kd_X5_clearBuffer rfl rfl (Nat.le_of_ble_eq_true rfl) ⟨by decide, by decide⟩ ⟨Nat.zero_le _, Nat.zero_le _⟩ (k_ER fun r0 M1 hq1 => ?_)
  obtain ⟨f0, hT0⟩ := hq1
  refine j_istore_n C dL_act_88 (by decide) ?_
  refine j_lv (lv2 := [(0, _), (1, _), (2, _), (3, _), (4, _)]) rfl ?_
  refine j_iconst C dL_act_89 (v := nI 0) (by decide) ?_
  refine j_istore C dL_act_90 (by decide) ?_
  refine j_lv (lv2 := [(0, _), (1, _), (2, _), (3, _), (4, _), (5, _)]) rfl ?_
  have L92 : ∀ k, k ≤ m9 → ∀ (r3 : Int32) (M2 : MM) (f : Nat → Nat), Xt M2 σ n [] (6 * k - 1) f → (∀ j, j < 6 * k - 1 → f j = actT x y j) → J G pg l ev (rmX 13) sg mm ([.ref (G.2.2 72), .int (x), .int (y)] : List Value).toArray bl mt cd AZ 7 (MQ bl (QQ G (fun v9 M9 => v9 = some (.int (nI (pr (gvS σ (actT x y) (1 + lw (x >>> (nI 4 &&& 31)) 8)) 0))) ∧ ActP σ n (nI (pr (gvS σ (actT x y) (1 + lw (x >>> (nI 4 &&& 31)) 8)) 0)) M9) AZ) ([.ref (G.2.2 72), .int (x), .int (y)] : List Value).toArray sg 1 6 AZ) 0 0 92 [(0, .ref (G.2.2 72)), (1, .int x), (2, .int y), (3, .int r3), (4, .int (nI m9)), (5, .int (nI k))] [] (M2) := by
    refine dnto ?_
    intro k hk92 ih92 r3 M2 f hT hF
    refine j_iload C dL_act_92 rfl ?_
    refine j_iload C dL_act_94 rfl ?_
    refine j_icmp_geN C dL_act_96 (tgt := 186) (by decide) (by omega) (by omega) (fun cq96 => ?_) (fun cq96 => ?_)
    · obtain rfl : k = m9 := by omega
      refine j_aload_n C dL_act_186 rfl ?_
      refine j_callSH C (x_loa hT (Nat.zero_le 5) (actT_tp (by omega) hF)) dL_act_187 gL_act_L_load rfl ks_L_load rfl rfl (Nat.le_of_ble_eq_true rfl) ⟨by decide, by decide⟩ ⟨Nat.zero_le _, Nat.zero_le _⟩ (k_IQ fun M8 h8 => ?_)
      refine j_top C (nI (pr (gvS σ (actT x y) (1 + lw (x >>> (nI 4 &&& 31)) 8)) 0)) (congrArg nI (by rw [hm9, show (6 * k - 1) / 6 + 1 = k by omega, gvS_co (fun j hj => hF j (by omega))])) ?_
      refine j_widen (k := 1) (n := 6) (Nat.zero_le _) (Nat.zero_le _) ?_
      exact j_ireturn C hret dL_act_190 ⟨rfl, Or.inr ⟨ok_N (Nat.lt_of_le_of_lt (pr_le _ _) (by decide)), _, h8⟩⟩
    · have K114 : ∀ (r4 : Int32) (M3 : MM) (f3 : Nat → Nat), Xt M3 σ n [] (6 * k) f3 → (∀ j, j < 6 * k → f3 j = actT x y j) → J G pg l ev (rmX 13) sg mm ([.ref (G.2.2 72), .int (x), .int (y)] : List Value).toArray bl mt cd AZ 7 (MQ bl (QQ G (fun v9 M9 => v9 = some (.int (nI (pr (gvS σ (actT x y) (1 + lw (x >>> (nI 4 &&& 31)) 8)) 0))) ∧ ActP σ n (nI (pr (gvS σ (actT x y) (1 + lw (x >>> (nI 4 &&& 31)) 8)) 0)) M9) AZ) ([.ref (G.2.2 72), .int (x), .int (y)] : List Value).toArray sg 1 6 AZ) 0 0 114 [(0, .ref (G.2.2 72)), (1, .int x), (2, .int y), (3, .int r3), (4, .int (nI m9)), (5, .int (nI k))] [.int r4] (M3) := by
        intro r4 M3 f3 hT1 hF1
        refine j_istore_n C dL_act_114 (by decide) ?_
        refine j_lv (lv2 := [(0, _), (1, _), (2, _), (3, _), (4, _), (5, _)]) rfl ?_
        have ha := lw_lt (v := (x >>> (nI (3 * k) &&& 31))) (n := 8) (by decide)
        refine j_aload_n C dL_act_115 rfl ?_
        refine j_bipush C dL_act_116 (v := nI 48) (by decide) ?_
        refine j_iload_n C dL_act_118 rfl ?_
        refine j_iconst C dL_act_119 (v := nI 3) (by decide) ?_
        refine j_iload C dL_act_120 rfl ?_
        refine j_imulN C dL_act_122 ?_
        refine j_ishr C dL_act_123 ?_
        refine j_bipush C dL_act_124 (v := nI 8) (by decide) ?_
        refine j_callS C (cl_low (by decide) (by decide)) dL_act_126 gL_act_L_low rfl ks_L_low rfl rfl (Nat.le_of_ble_eq_true rfl) ⟨by decide, by decide⟩ ⟨Nat.zero_le _, Nat.zero_le _⟩ (k_I ?_)
        refine j_iaddN C dL_act_129 ?_
        refine j_callSH C (x_app hT1 (by omega) (by omega) (by omega)) dL_act_130 gL_act_L_append rfl ks_L_append rfl rfl (Nat.le_of_ble_eq_true rfl) ⟨by decide, by decide⟩ ⟨Nat.zero_le _, Nat.zero_le _⟩ (k_IQ fun M4 hT4 => ?_)
        refine j_istore_n C dL_act_133 (by decide) ?_
        refine j_lv (lv2 := [(0, _), (1, _), (2, _), (3, _), (4, _), (5, _)]) rfl ?_
        refine j_aload_n C dL_act_134 rfl ?_
        refine j_bipush C dL_act_135 (v := nI 61) (by decide) ?_
        refine j_callSH C (x_app hT4 (by decide) (by decide) (by omega)) dL_act_137 gL_act_L_append rfl ks_L_append rfl rfl (Nat.le_of_ble_eq_true rfl) ⟨by decide, by decide⟩ ⟨Nat.zero_le _, Nat.zero_le _⟩ (k_IQ fun M5 hT5 => ?_)
        refine j_istore_n C dL_act_140 (by decide) ?_
        refine j_lv (lv2 := [(0, _), (1, _), (2, _), (3, _), (4, _), (5, _)]) rfl ?_
        have hF5 := ag_s (T := actT x y) (ag_s (T := actT x y) hF1 (actT_0 (x := x) (y := y)).symm) (actT_1 (x := x) (y := y) (k := k)).symm
        refine j_iconst C dL_act_141 (v := nI 0) (by decide) ?_
        refine j_istore C dL_act_142 (by decide) ?_
        refine j_lv (lv2 := [(0, _), (1, _), (2, _), (3, _), (4, _), (5, _), (6, _)]) rfl ?_
        have L144 : ∀ t, t ≤ 3 → ∀ (r3 : Int32) (M6 : MM) (f6 : Nat → Nat), Xt M6 σ n [] (6 * k + 2 + t) f6 → (∀ j, j < 6 * k + 2 + t → f6 j = actT x y j) → J G pg l ev (rmX 13) sg mm ([.ref (G.2.2 72), .int (x), .int (y)] : List Value).toArray bl mt cd AZ 7 (MQ bl (QQ G (fun v9 M9 => v9 = some (.int (nI (pr (gvS σ (actT x y) (1 + lw (x >>> (nI 4 &&& 31)) 8)) 0))) ∧ ActP σ n (nI (pr (gvS σ (actT x y) (1 + lw (x >>> (nI 4 &&& 31)) 8)) 0)) M9) AZ) ([.ref (G.2.2 72), .int (x), .int (y)] : List Value).toArray sg 1 6 AZ) 0 0 144 [(0, .ref (G.2.2 72)), (1, .int x), (2, .int y), (3, .int r3), (4, .int (nI m9)), (5, .int (nI k)), (6, .int (nI t))] [] (M6) := by
          refine dnto ?_
          intro t ht144 ih144 r3 M6 f6 hT6 hF6
          refine j_iload C dL_act_144 rfl ?_
          refine j_iconst C dL_act_146 (v := nI 3) (by decide) ?_
          refine j_icmp_geN C dL_act_147 (tgt := 180) (by decide) (by omega) (by omega) (fun cq147 => ?_) (fun cq147 => ?_)
          · obtain rfl : t = 3 := by omega
            refine j_iincN C dL_act_180 rfl (by decide) ?_
            refine j_goto C dL_act_183 (tgt := 92) (by decide) ?_
            exact j_pick [0, 1, 2, 3, 4, 5] (ih92 (by omega) _ M6 f6 (by rw [show 6 * (k + 1) - 1 = 6 * k + 2 + 3 by omega]; exact hT6) (by rw [show 6 * (k + 1) - 1 = 6 * k + 2 + 3 by omega]; exact hF6))
          · have hb := lw_lt (v := (y >>> (nI (2 * k + 5 * t) &&& 31))) (n := 10) (by decide)
            refine j_aload_n C dL_act_150 rfl ?_
            refine j_bipush C dL_act_151 (v := nI 48) (by decide) ?_
            refine j_iload_n C dL_act_153 rfl ?_
            refine j_iconst C dL_act_154 (v := nI 2) (by decide) ?_
            refine j_iload C dL_act_155 rfl ?_
            refine j_imulN C dL_act_157 ?_
            refine j_iconst C dL_act_158 (v := nI 5) (by decide) ?_
            refine j_iload C dL_act_159 rfl ?_
            refine j_imulN C dL_act_161 ?_
            refine j_iaddN C dL_act_162 ?_
            refine j_ishr C dL_act_163 ?_
            refine j_bipush C dL_act_164 (v := nI 10) (by decide) ?_
            refine j_callS C (cl_low (by decide) (by decide)) dL_act_166 gL_act_L_low rfl ks_L_low rfl rfl (Nat.le_of_ble_eq_true rfl) ⟨by decide, by decide⟩ ⟨Nat.zero_le _, Nat.zero_le _⟩ (k_I ?_)
            refine j_iaddN C dL_act_169 ?_
            refine j_callSH C (x_app hT6 (by omega) (by omega) (by omega)) dL_act_170 gL_act_L_append rfl ks_L_append rfl rfl (Nat.le_of_ble_eq_true rfl) ⟨by decide, by decide⟩ ⟨Nat.zero_le _, Nat.zero_le _⟩ (k_IQ fun M7 hT7 => ?_)
            refine j_istore_n C dL_act_173 (by decide) ?_
            refine j_lv (lv2 := [(0, _), (1, _), (2, _), (3, _), (4, _), (5, _), (6, _)]) rfl ?_
            refine j_iincN C dL_act_174 rfl (by decide) ?_
            refine j_goto C dL_act_177 (tgt := 144) (by decide) ?_
            exact ih144 (by omega) _ M7 _ hT7 (ag_s (T := actT x y) hF6 (actT_2 (x := x) (y := y) cq147).symm)
        exact L144 0 (by omega) _ M5 _ hT5 hF5
      refine j_iload C dL_act_99 rfl ?_
      refine j_if_leN C dL_act_101 (tgt := 113) (by decide) (by omega) (fun cq101 => ?_) (fun cq101 => ?_)
      · refine j_iconst C dL_act_113 (v := nI 0) (by decide) ?_
        obtain rfl : k = 0 := by omega
        exact K114 _ M2 f hT hF
      · refine j_aload_n C dL_act_104 rfl ?_
        refine j_bipush C dL_act_105 (v := nI 59) (by decide) ?_
        refine j_callSH C (x_app hT (by decide) (by decide) (by omega)) dL_act_107 gL_act_L_append rfl ks_L_append rfl rfl (Nat.le_of_ble_eq_true rfl) ⟨by decide, by decide⟩ ⟨Nat.zero_le _, Nat.zero_le _⟩ (k_IQ fun M3 hT3 => ?_)
        refine j_goto C dL_act_110 (tgt := 114) (by decide) ?_
        exact K114 _ M3 _ (by rw [show 6 * k = 6 * k - 1 + 1 by omega]; exact hT3) (by
          have ha := ag_s (T := actT x y) hF (actT_5 (x := x) (y := y) cq101).symm
          rw [show 6 * k - 1 + 1 = 6 * k by omega] at ha
          exact ha)
  exact L92 0 (by omega) _ M1 _ hT0 (fun j hj => absurd hj (Nat.not_lt_zero j))

set_option maxHeartbeats 4000000 in
set_option maxRecDepth 100000 in
theorem cl_act_1 {l : Launch} {G : GG} {M : MM} {σ : Sg} {n : Nat} {x y : Int32} (h : Xs M σ n []) (hk : lw x 14 = 1)  : Cw l G yL_act wsL_act 13 ([.ref (G.2.2 72), .int (x), .int (y)] : List Value) M (fun v9 M9 => v9 = some (.int (nI (pr (gvS σ (actT x y) (1 + lw (x >>> (nI 4 &&& 31)) 8)) 0))) ∧ ActP σ n (nI (pr (gvS σ (actT x y) (1 + lw (x >>> (nI 4 &&& 31)) 8)) 0)) M9) := by
  have hW := h.wf
  have h44 := hW.2.2.1
  have hn6 := h.n6
  have hm := lw_lt (v := (x >>> (nI 4 &&& 31))) (n := 8) (by decide)
  obtain ⟨m9, hm9⟩ : ∃ m9, 1 + lw (x >>> (nI 4 &&& 31)) 8 = m9 := ⟨_, rfl⟩
  refine Cw.ofC (cc := cL_act) (maxL := 7) (ret := (some .int)) (lv := [(0, .ref (G.2.2 72)), (1, .int (x)), (2, .int (y))]) (by decide) rfl rfl (Nat.le_of_ble_eq_true rfl) ?_
  intro pg ev sg mm bl mt cd AZ C hXw hret
  refine j_iconst C dL_act_0 (v := nI 0) (by decide) ?_
  refine j_istore_n C dL_act_1 (by decide) ?_
  refine j_lv (lv2 := [(0, _), (1, _), (2, _), (3, _)]) rfl ?_
  refine j_iload_n C dL_act_2 rfl ?_
  refine j_bipush C dL_act_3 (v := nI 14) (by decide) ?_
  refine j_callS C (cl_low (by decide) (by decide)) dL_act_5 gL_act_L_low rfl ks_L_low rfl rfl (Nat.le_of_ble_eq_true rfl) ⟨by decide, by decide⟩ ⟨Nat.zero_le _, Nat.zero_le _⟩ (k_I ?_)
  refine j_top C (nI 1) (congrArg nI hk) ?_
  refine j_tableIn C dL_act_8 (off := 64) (tgt := 72) (by decide) (by decide) (by decide) (by decide) ?_
  refine j_iconst C dL_act_72 (v := nI 1) (by decide) ?_
  refine j_iload_n C dL_act_73 rfl ?_
  refine j_iconst C dL_act_74 (v := nI 4) (by decide) ?_
  refine j_ishr C dL_act_75 ?_
  refine j_bipush C dL_act_76 (v := nI 8) (by decide) ?_
  refine j_callS C (cl_low (by decide) (by decide)) dL_act_78 gL_act_L_low rfl ks_L_low rfl rfl (Nat.le_of_ble_eq_true rfl) ⟨by decide, by decide⟩ ⟨Nat.zero_le _, Nat.zero_le _⟩ (k_I ?_)
  refine j_iaddN C dL_act_81 ?_
  refine j_top C (nI m9) (congrArg nI hm9) ?_
  refine j_istore C dL_act_82 (by decide) ?_
  refine j_lv (lv2 := [(0, _), (1, _), (2, _), (3, _), (4, _)]) rfl ?_
  refine j_aload_n C dL_act_84 rfl ?_
  refine j_callV C (x_clr h) dL_act_85 rfl (by decide) (T := TX5) rfl gL_act_X5_clearBuffer rfl kd_X5_clearBuffer rfl rfl (Nat.le_of_ble_eq_true rfl) ⟨by decide, by decide⟩ ⟨Nat.zero_le _, Nat.zero_le _⟩ (k_ER fun r0 M1 hq1 => ?_)
  obtain ⟨f0, hT0⟩ := hq1
  refine j_istore_n C dL_act_88 (by decide) ?_
  refine j_lv (lv2 := [(0, _), (1, _), (2, _), (3, _), (4, _)]) rfl ?_
  refine j_iconst C dL_act_89 (v := nI 0) (by decide) ?_
  refine j_istore C dL_act_90 (by decide) ?_
  refine j_lv (lv2 := [(0, _), (1, _), (2, _), (3, _), (4, _), (5, _)]) rfl ?_
  have L92 : ∀ k, k ≤ m9 → ∀ (r3 : Int32) (M2 : MM) (f : Nat → Nat), Xt M2 σ n [] (6 * k - 1) f → (∀ j, j < 6 * k - 1 → f j = actT x y j) → J G pg l ev (rmX 13) sg mm ([.ref (G.2.2 72), .int (x), .int (y)] : List Value).toArray bl mt cd AZ 7 (MQ bl (QQ G (fun v9 M9 => v9 = some (.int (nI (pr (gvS σ (actT x y) (1 + lw (x >>> (nI 4 &&& 31)) 8)) 0))) ∧ ActP σ n (nI (pr (gvS σ (actT x y) (1 + lw (x >>> (nI 4 &&& 31)) 8)) 0)) M9) AZ) ([.ref (G.2.2 72), .int (x), .int (y)] : List Value).toArray sg 1 6 AZ) 0 0 92 [(0, .ref (G.2.2 72)), (1, .int x), (2, .int y), (3, .int r3), (4, .int (nI m9)), (5, .int (nI k))] [] (M2) := by
    refine dnto ?_
    intro k hk92 ih92 r3 M2 f hT hF
    refine j_iload C dL_act_92 rfl ?_
    refine j_iload C dL_act_94 rfl ?_
    refine j_icmp_geN C dL_act_96 (tgt := 186) (by decide) (by omega) (by omega) (fun cq96 => ?_) (fun cq96 => ?_)
    · obtain rfl : k = m9 := by omega
      refine j_aload_n C dL_act_186 rfl ?_
      refine j_callSH C (x_loa hT (Nat.zero_le 5) (actT_tp (by omega) hF)) dL_act_187 gL_act_L_load rfl ks_L_load rfl rfl (Nat.le_of_ble_eq_true rfl) ⟨by decide, by decide⟩ ⟨Nat.zero_le _, Nat.zero_le _⟩ (k_IQ fun M8 h8 => ?_)
      refine j_top C (nI (pr (gvS σ (actT x y) (1 + lw (x >>> (nI 4 &&& 31)) 8)) 0)) (congrArg nI (by rw [hm9, show (6 * k - 1) / 6 + 1 = k by omega, gvS_co (fun j hj => hF j (by omega))])) ?_
      refine j_widen (k := 1) (n := 6) (Nat.zero_le _) (Nat.zero_le _) ?_
      exact j_ireturn C hret dL_act_190 ⟨rfl, Or.inr ⟨ok_N (Nat.lt_of_le_of_lt (pr_le _ _) (by decide)), _, h8⟩⟩
    · have K114 : ∀ (r4 : Int32) (M3 : MM) (f3 : Nat → Nat), Xt M3 σ n [] (6 * k) f3 → (∀ j, j < 6 * k → f3 j = actT x y j) → J G pg l ev (rmX 13) sg mm ([.ref (G.2.2 72), .int (x), .int (y)] : List Value).toArray bl mt cd AZ 7 (MQ bl (QQ G (fun v9 M9 => v9 = some (.int (nI (pr (gvS σ (actT x y) (1 + lw (x >>> (nI 4 &&& 31)) 8)) 0))) ∧ ActP σ n (nI (pr (gvS σ (actT x y) (1 + lw (x >>> (nI 4 &&& 31)) 8)) 0)) M9) AZ) ([.ref (G.2.2 72), .int (x), .int (y)] : List Value).toArray sg 1 6 AZ) 0 0 114 [(0, .ref (G.2.2 72)), (1, .int x), (2, .int y), (3, .int r3), (4, .int (nI m9)), (5, .int (nI k))] [.int r4] (M3) := by
        intro r4 M3 f3 hT1 hF1
        refine j_istore_n C dL_act_114 (by decide) ?_
        refine j_lv (lv2 := [(0, _), (1, _), (2, _), (3, _), (4, _), (5, _)]) rfl ?_
        have ha := lw_lt (v := (x >>> (nI (3 * k) &&& 31))) (n := 8) (by decide)
        refine j_aload_n C dL_act_115 rfl ?_
        refine j_bipush C dL_act_116 (v := nI 48) (by decide) ?_
        refine j_iload_n C dL_act_118 rfl ?_
        refine j_iconst C dL_act_119 (v := nI 3) (by decide) ?_
        refine j_iload C dL_act_120 rfl ?_
        refine j_imulN C dL_act_122 ?_
        refine j_ishr C dL_act_123 ?_
        refine j_bipush C dL_act_124 (v := nI 8) (by decide) ?_
        refine j_callS C (cl_low (by decide) (by decide)) dL_act_126 gL_act_L_low rfl ks_L_low rfl rfl (Nat.le_of_ble_eq_true rfl) ⟨by decide, by decide⟩ ⟨Nat.zero_le _, Nat.zero_le _⟩ (k_I ?_)
        refine j_iaddN C dL_act_129 ?_
        refine j_callSH C (x_app hT1 (by omega) (by omega) (by omega)) dL_act_130 gL_act_L_append rfl ks_L_append rfl rfl (Nat.le_of_ble_eq_true rfl) ⟨by decide, by decide⟩ ⟨Nat.zero_le _, Nat.zero_le _⟩ (k_IQ fun M4 hT4 => ?_)
        refine j_istore_n C dL_act_133 (by decide) ?_
        refine j_lv (lv2 := [(0, _), (1, _), (2, _), (3, _), (4, _), (5, _)]) rfl ?_
        refine j_aload_n C dL_act_134 rfl ?_
        refine j_bipush C dL_act_135 (v := nI 61) (by decide) ?_
        refine j_callSH C (x_app hT4 (by decide) (by decide) (by omega)) dL_act_137 gL_act_L_append rfl ks_L_append rfl rfl (Nat.le_of_ble_eq_true rfl) ⟨by decide, by decide⟩ ⟨Nat.zero_le _, Nat.zero_le _⟩ (k_IQ fun M5 hT5 => ?_)
        refine j_istore_n C dL_act_140 (by decide) ?_
        refine j_lv (lv2 := [(0, _), (1, _), (2, _), (3, _), (4, _), (5, _)]) rfl ?_
        have hF5 := ag_s (T := actT x y) (ag_s (T := actT x y) hF1 (actT_0 (x := x) (y := y)).symm) (actT_1 (x := x) (y := y) (k := k)).symm
        refine j_iconst C dL_act_141 (v := nI 0) (by decide) ?_
        refine j_istore C dL_act_142 (by decide) ?_
        refine j_lv (lv2 := [(0, _), (1, _), (2, _), (3, _), (4, _), (5, _), (6, _)]) rfl ?_
        have L144 : ∀ t, t ≤ 3 → ∀ (r3 : Int32) (M6 : MM) (f6 : Nat → Nat), Xt M6 σ n [] (6 * k + 2 + t) f6 → (∀ j, j < 6 * k + 2 + t → f6 j = actT x y j) → J G pg l ev (rmX 13) sg mm ([.ref (G.2.2 72), .int (x), .int (y)] : List Value).toArray bl mt cd AZ 7 (MQ bl (QQ G (fun v9 M9 => v9 = some (.int (nI (pr (gvS σ (actT x y) (1 + lw (x >>> (nI 4 &&& 31)) 8)) 0))) ∧ ActP σ n (nI (pr (gvS σ (actT x y) (1 + lw (x >>> (nI 4 &&& 31)) 8)) 0)) M9) AZ) ([.ref (G.2.2 72), .int (x), .int (y)] : List Value).toArray sg 1 6 AZ) 0 0 144 [(0, .ref (G.2.2 72)), (1, .int x), (2, .int y), (3, .int r3), (4, .int (nI m9)), (5, .int (nI k)), (6, .int (nI t))] [] (M6) := by
          refine dnto ?_
          intro t ht144 ih144 r3 M6 f6 hT6 hF6
          refine j_iload C dL_act_144 rfl ?_
          refine j_iconst C dL_act_146 (v := nI 3) (by decide) ?_
          refine j_icmp_geN C dL_act_147 (tgt := 180) (by decide) (by omega) (by omega) (fun cq147 => ?_) (fun cq147 => ?_)
          · obtain rfl : t = 3 := by omega
            refine j_iincN C dL_act_180 rfl (by decide) ?_
            refine j_goto C dL_act_183 (tgt := 92) (by decide) ?_
            exact j_pick [0, 1, 2, 3, 4, 5] (ih92 (by omega) _ M6 f6 (by rw [show 6 * (k + 1) - 1 = 6 * k + 2 + 3 by omega]; exact hT6) (by rw [show 6 * (k + 1) - 1 = 6 * k + 2 + 3 by omega]; exact hF6))
          · have hb := lw_lt (v := (y >>> (nI (2 * k + 5 * t) &&& 31))) (n := 10) (by decide)
            refine j_aload_n C dL_act_150 rfl ?_
            refine j_bipush C dL_act_151 (v := nI 48) (by decide) ?_
            refine j_iload_n C dL_act_153 rfl ?_
            refine j_iconst C dL_act_154 (v := nI 2) (by decide) ?_
            refine j_iload C dL_act_155 rfl ?_
            refine j_imulN C dL_act_157 ?_
            refine j_iconst C dL_act_158 (v := nI 5) (by decide) ?_
            refine j_iload C dL_act_159 rfl ?_
            refine j_imulN C dL_act_161 ?_
            refine j_iaddN C dL_act_162 ?_
            refine j_ishr C dL_act_163 ?_
            refine j_bipush C dL_act_164 (v := nI 10) (by decide) ?_
            refine j_callS C (cl_low (by decide) (by decide)) dL_act_166 gL_act_L_low rfl ks_L_low rfl rfl (Nat.le_of_ble_eq_true rfl) ⟨by decide, by decide⟩ ⟨Nat.zero_le _, Nat.zero_le _⟩ (k_I ?_)
            refine j_iaddN C dL_act_169 ?_
            refine j_callSH C (x_app hT6 (by omega) (by omega) (by omega)) dL_act_170 gL_act_L_append rfl ks_L_append rfl rfl (Nat.le_of_ble_eq_true rfl) ⟨by decide, by decide⟩ ⟨Nat.zero_le _, Nat.zero_le _⟩ (k_IQ fun M7 hT7 => ?_)
            refine j_istore_n C dL_act_173 (by decide) ?_
            refine j_lv (lv2 := [(0, _), (1, _), (2, _), (3, _), (4, _), (5, _), (6, _)]) rfl ?_
            refine j_iincN C dL_act_174 rfl (by decide) ?_
            refine j_goto C dL_act_177 (tgt := 144) (by decide) ?_
            exact ih144 (by omega) _ M7 _ hT7 (ag_s (T := actT x y) hF6 (actT_2 (x := x) (y := y) cq147).symm)
        exact L144 0 (by omega) _ M5 _ hT5 hF5
      refine j_iload C dL_act_99 rfl ?_
      refine j_if_leN C dL_act_101 (tgt := 113) (by decide) (by omega) (fun cq101 => ?_) (fun cq101 => ?_)
      · refine j_iconst C dL_act_113 (v := nI 0) (by decide) ?_
        obtain rfl : k = 0 := by omega
        exact K114 _ M2 f hT hF
      · refine j_aload_n C dL_act_104 rfl ?_
        refine j_bipush C dL_act_105 (v := nI 59) (by decide) ?_
        refine j_callSH C (x_app hT (by decide) (by decide) (by omega)) dL_act_107 gL_act_L_append rfl ks_L_append rfl rfl (Nat.le_of_ble_eq_true rfl) ⟨by decide, by decide⟩ ⟨Nat.zero_le _, Nat.zero_le _⟩ (k_IQ fun M3 hT3 => ?_)
        refine j_goto C dL_act_110 (tgt := 114) (by decide) ?_
        exact K114 _ M3 _ (by rw [show 6 * k = 6 * k - 1 + 1 by omega]; exact hT3) (by
          have ha := ag_s (T := actT x y) hF (actT_5 (x := x) (y := y) cq101).symm
          rw [show 6 * k - 1 + 1 = 6 * k by omega] at ha
          exact ha)
  exact L92 0 (by omega) _ M1 _ hT0 (fun j hj => absurd hj (Nat.not_lt_zero j))

theorem cl_act {l : Launch} {G : GG} {M : MM} {σ : Sg} {n : Nat} {x y : Int32} (h : Xs M σ n []) (hl : l.stackTraces = false) : Cw l G yL_act wsL_act 13 ([.ref (G.2.2 72), .int x, .int y] : List Value) M (fun v9 M9 => v9 = some (.int (actV σ x y)) ∧ ActP σ n (actV σ x y) M9) := by
  have hlt := lw_lt (v := x) (n := 14) (by decide)
  rcases (show lw x 14 = 0 ∨ lw x 14 = 1 ∨ lw x 14 = 2 ∨ lw x 14 = 3 ∨ lw x 14 = 4 ∨ lw x 14 = 5 ∨ lw x 14 = 6 ∨ lw x 14 = 7 ∨ lw x 14 = 8 ∨ lw x 14 = 9 ∨ lw x 14 = 10 ∨ lw x 14 = 11 ∨ lw x 14 = 12 ∨ lw x 14 = 13 by omega) with hk | hk | hk | hk | hk | hk | hk | hk | hk | hk | hk | hk | hk | hk
  · unfold actV
    rw [hk]
    exact cl_act_0 h hk
  · unfold actV
    rw [hk]
    exact cl_act_1 h hk
  · unfold actV
    rw [hk]
    exact cl_act_2 h hk
  · unfold actV
    rw [hk]
    exact cl_act_3 h hk
  · unfold actV
    rw [hk]
    show Cw l G yL_act wsL_act 13 ([.ref (G.2.2 72), .int x, .int y] : List Value) M (fun v9 M9 => v9 = some (.int (if lw y 6 < σ 44 then nI (popc (rdm σ (lw y 6))) else -1000001)) ∧ ActP σ n (if lw y 6 < σ 44 then nI (popc (rdm σ (lw y 6))) else -1000001) M9)
    by_cases hc : lw y 6 < σ 44
    · rw [if_pos hc]; exact cl_act_4a h hk hc hl
    · rw [if_neg hc]; exact cl_act_4b h hk (by omega) hl
  · unfold actV
    rw [hk]
    show Cw l G yL_act wsL_act 13 ([.ref (G.2.2 72), .int x, .int y] : List Value) M (fun v9 M9 => v9 = some (.int (if lw y 6 < σ 44 then lsR (mrk σ (lw (y >>> (nI 3 &&& 31)) 4) (lw y 6)) else -1000001)) ∧ ActP σ n (if lw y 6 < σ 44 then lsR (mrk σ (lw (y >>> (nI 3 &&& 31)) 4) (lw y 6)) else -1000001) M9)
    by_cases hc : lw y 6 < σ 44
    · rw [if_pos hc]; exact cl_act_5a h hk hc hl
    · rw [if_neg hc]; exact cl_act_5b h hk (by omega) hl
  · unfold actV
    rw [hk]
    show Cw l G yL_act wsL_act 13 ([.ref (G.2.2 72), .int x, .int y] : List Value) M (fun v9 M9 => v9 = some (.int (if lw y 6 < σ 44 then lsR (mrk σ (lw (y >>> (nI 3 &&& 31)) 4) (lw y 6)) else -1000001)) ∧ ActP σ n (if lw y 6 < σ 44 then lsR (mrk σ (lw (y >>> (nI 3 &&& 31)) 4) (lw y 6)) else -1000001) M9)
    by_cases hc : lw y 6 < σ 44
    · rw [if_pos hc]; exact cl_act_6a h hk hc hl
    · rw [if_neg hc]; exact cl_act_6b h hk (by omega) hl
  · unfold actV
    rw [hk]
    exact cl_act_7 h hk
  · unfold actV
    rw [hk]
    exact cl_act_8 h hk
  · unfold actV
    rw [hk]
    exact cl_act_9 h hk
  · unfold actV
    rw [hk]
    exact cl_act_10 h hk
  · unfold actV
    rw [hk]
    exact cl_act_11 h hk
  · unfold actV
    rw [hk]
    exact cl_act_12 h hk
  · unfold actV
    rw [hk]
    exact cl_act_13 h hk
