set_option maxRecDepth 20000 in
theorem ks_L_hangs : yL_hangs.cls ≠ "java/lang/invoke/MethodHandle" ∧ yL_hangs.cls ≠ "java/lang/invoke/VarHandle" ∧ (parseMethodDescriptor yL_hangs.desc).map (fun d => d.parameters.length) = some 1 := by decide +kernel
set_option maxRecDepth 20000 in
theorem ks_L_labels : yL_labels.cls ≠ "java/lang/invoke/MethodHandle" ∧ yL_labels.cls ≠ "java/lang/invoke/VarHandle" ∧ (parseMethodDescriptor yL_labels.desc).map (fun d => d.parameters.length) = some 2 := by decide +kernel
set_option maxRecDepth 20000 in
theorem ks_L_at : yL_at.cls ≠ "java/lang/invoke/MethodHandle" ∧ yL_at.cls ≠ "java/lang/invoke/VarHandle" ∧ (parseMethodDescriptor yL_at.desc).map (fun d => d.parameters.length) = some 2 := by decide +kernel
set_option maxRecDepth 20000 in
theorem ks_L_borrows : yL_borrows.cls ≠ "java/lang/invoke/MethodHandle" ∧ yL_borrows.cls ≠ "java/lang/invoke/VarHandle" ∧ (parseMethodDescriptor yL_borrows.desc).map (fun d => d.parameters.length) = some 3 := by decide +kernel
set_option maxRecDepth 20000 in
theorem ks_L_corrects : yL_corrects.cls ≠ "java/lang/invoke/MethodHandle" ∧ yL_corrects.cls ≠ "java/lang/invoke/VarHandle" ∧ (parseMethodDescriptor yL_corrects.desc).map (fun d => d.parameters.length) = some 5 := by decide +kernel
set_option maxRecDepth 20000 in
theorem ks_L_act : yL_act.cls ≠ "java/lang/invoke/MethodHandle" ∧ yL_act.cls ≠ "java/lang/invoke/VarHandle" ∧ (parseMethodDescriptor yL_act.desc).map (fun d => d.parameters.length) = some 3 := by decide +kernel
section JE
variable {G : GG} {p : Program} {l : Launch} {e : Env} {R : Room} {s : State} {m : MethodId} {args : Array Value} {below : List Frame} {meth : Method} {c : Code} {A : Nat → Prop} {nL : Nat} {Q : State → Prop} {k9 n9 pc : Nat} {lv : List (Nat × Value)} {st : List Value} {M : MM}
theorem k_E {M1 : MM} {rest : List Value} {pc1 : Nat} (k : ∀ r : Int32, J G p l e R s m args below meth c A nL Q k9 n9 pc1 lv (.int r :: rest) M1) : ∀ (v : Option Value) (M' : MM), (∃ r : Int32, v = some (.int r) ∧ M' = M1) → J G p l e R s m args below meth c A nL Q k9 n9 pc1 lv (v.toList ++ rest) M' := by
  rintro v M' ⟨r, rfl, rfl⟩; exact k r
end JE
theorem act_ok {σ : Sg} {n : Nat} {r : Int32} {M9 : MM} (h : ActP σ n r M9) (hr : -1000 ≤ r) : ∃ τ, Xs M9 τ (svN n) [σ] := by
  rcases h with ⟨rfl, -⟩ | ⟨-, h⟩
  · exact absurd hr (by decide)
  · exact h
theorem act_no {σ : Sg} {n : Nat} {r : Int32} {M9 : MM} (h : ActP σ n r M9) (hr : ¬ -1000 ≤ r) : Xs M9 σ n [] := by
  rcases h with ⟨-, h⟩ | ⟨h, -⟩
  · exact h
  · exact absurd (Int32.not_lt.mp h) hr
theorem act_any {σ : Sg} {n : Nat} {r : Int32} {M9 : MM} (h : ActP σ n r M9) : ∃ τ n9, Xs M9 τ n9 [] := by
  rcases h with ⟨-, h⟩ | ⟨-, τ, h⟩
  · exact ⟨_, _, h⟩
  · exact ⟨_, _, h.nil⟩

set_option maxHeartbeats 4000000 in
set_option maxRecDepth 100000 in
theorem law_walk {G : GG} {p : Program} {l : Launch} {e : Env} {s : State} {m : MethodId} {below : List Frame} {meth : Method} {c : Code} {A : Nat → Prop} {Q : State → Prop} {b N9 : Nat} {xs : Nat → Int32} (C : Cx G p s m #[.ref b] meth c A cL_law 10 RL wsL_law) (hXw : XW A s) (hX9 : va_X b N9 xs s s.heap) (hbl : b < s.heap.size) (hbA : ¬ A b) (hl : l.stackTraces = false) (hN9 : N9 ≤ 260)
    (kend : ∀ (H : Heap) (locs : List Loc) (ls : Array Slot), va_S A s.heap H locs → W p l e room_1 s m #[.ref b] below meth c H locs 600130 7301079 Q (F0 m 364 ls [.int (nI 1)])) {M : MM} {σ : Sg} {n : Nat} (h : Xs M σ n []) : J G p l e room_1 s m #[.ref b] below meth c A 10 Q 100 3000 8 [(0, .ref b), (1, .ref (G.2.2 72))] [] M := by
  refine j_aload_n C dL_law_8 rfl ?_
  refine j_callSg C (cl_hangs h) dL_law_9 gL_law_L_hangs rfl ks_L_hangs rfl rfl (Nat.le_of_ble_eq_true rfl) ⟨Nat.le_of_ble_eq_true rfl, Nat.le_of_ble_eq_true rfl⟩ ⟨by show _ ≤ 600130; omega, by show _ ≤ 7301079; omega⟩ (k_I ?_)
  refine j_if_eqB C dL_law_12 (tgt := 27) (by decide) (fun cq12 => absurd cq12 (by decide)) (fun cq12 => ?_)
  refine j_aload_n C dL_law_15 rfl ?_
  refine j_iconst C dL_law_16 (v := nI 0) (by decide) ?_
  refine j_callS C (cl_labels h (Nat.zero_le 5) (by decide)) dL_law_17 gL_law_L_labels rfl ks_L_labels rfl rfl (Nat.le_of_ble_eq_true rfl) ⟨Nat.le_of_ble_eq_true rfl, Nat.le_of_ble_eq_true rfl⟩ ⟨by show _ ≤ 600130; omega, by show _ ≤ 7301079; omega⟩ (k_IQ fun M1 h1 => ?_)
  refine j_if_eqB C dL_law_20 (tgt := 27) (by decide) (fun cq20 => absurd cq20 (by decide)) (fun cq20 => ?_)
  refine j_iconst C dL_law_23 (v := nI 1) (by decide) ?_
  refine j_goto C dL_law_24 (tgt := 28) (by decide) ?_
  refine j_istore_n C dL_law_28 (by decide) ?_
  refine j_lv (lv2 := [(0, _), (1, _), (2, _)]) rfl ?_
  refine j_iconst C dL_law_29 (v := nI 0) (by decide) ?_
  refine j_istore_n C dL_law_30 (by decide) ?_
  refine j_lv (lv2 := [(0, _), (1, _), (2, _), (3, _)]) rfl ?_
  have L31 : ∀ k, k ≤ 40 → ∀ (M : MM) (σ : Sg) (n : Nat), Xs M σ n [] → J G p l e room_1 s m #[.ref b] below meth c A 10 Q (101 + 3 * k) (3064 + 76 * k) 31 [(0, .ref b), (1, .ref (G.2.2 72)), (2, .int (nI 1)), (3, .int (nI k))] [] (M) := by
    refine dnto ?_
    intro k hk31 ih31 M σ n h
    refine j_iload_n C dL_law_31 rfl ?_
    refine j_bipush C dL_law_32 (v := nI 40) (by decide) ?_
    refine j_icmp_geN C dL_law_34 (tgt := 363) (by decide) (by omega) (by omega) (fun cq34 => ?_) (fun cq34 => ?_)
    · refine j_iload_n C dL_law_363 rfl ?_
      intro H locs ls hP hS hv
      exact W.widen (by omega) (by omega) (kend H locs ls hS)
    · refine j_iload_n C dL_law_37 rfl ?_
      refine j_if_eqN C dL_law_38 (tgt := 363) (by decide) (by omega) (fun cq38 => absurd cq38 (by decide)) (fun cq38 => ?_)
      refine j_aload_n C dL_law_41 rfl ?_
      refine j_iconst C dL_law_42 (v := nI 2) (by decide) ?_
      refine j_iload_n C dL_law_43 rfl ?_
      refine j_imulN C dL_law_44 ?_
      refine j_callSs C hX9 hbl hbA (cl_at (by omega) (by omega)) dL_law_45 gL_law_L_at rfl ks_L_at rfl rfl (Nat.le_of_ble_eq_true rfl) ⟨Nat.le_of_ble_eq_true rfl, Nat.le_of_ble_eq_true rfl⟩ ⟨by show _ ≤ 600130; omega, by show _ ≤ 7301079; omega⟩ (k_E fun x => ?_)
      refine j_istore C dL_law_48 (by decide) ?_
      refine j_lv (lv2 := [(0, _), (1, _), (2, _), (3, _), (4, _)]) rfl ?_
      refine j_aload_n C dL_law_50 rfl ?_
      refine j_iconst C dL_law_51 (v := nI 2) (by decide) ?_
      refine j_iload_n C dL_law_52 rfl ?_
      refine j_imulN C dL_law_53 ?_
      refine j_iconst C dL_law_54 (v := nI 1) (by decide) ?_
      refine j_iaddN C dL_law_55 ?_
      refine j_callSs C hX9 hbl hbA (cl_at (by omega) (by omega)) dL_law_56 gL_law_L_at rfl ks_L_at rfl rfl (Nat.le_of_ble_eq_true rfl) ⟨Nat.le_of_ble_eq_true rfl, Nat.le_of_ble_eq_true rfl⟩ ⟨by show _ ≤ 600130; omega, by show _ ≤ 7301079; omega⟩ (k_E fun y => ?_)
      refine j_istore C dL_law_59 (by decide) ?_
      refine j_lv (lv2 := [(0, _), (1, _), (2, _), (3, _), (4, _), (5, _)]) rfl ?_
      have K235 : ∀ (M : MM) (σ : Sg) (n : Nat), Xs M σ n [] → J G p l e room_1 s m #[.ref b] below meth c A 10 Q (103 + 3 * k) (3076 + 76 * k) 235 [(0, .ref b), (1, .ref (G.2.2 72)), (2, .int (nI 1)), (3, .int (nI k)), (4, .int x), (5, .int y)] [] (M) := by
        intro M σ n h
        refine j_iload_n C dL_law_235 rfl ?_
        refine j_if_eqN C dL_law_236 (tgt := 355) (by decide) (by omega) (fun cq236 => absurd cq236 (by decide)) (fun cq236 => ?_)
        refine j_aload_n C dL_law_239 rfl ?_
        refine j_callSg C (cl_hangs h) dL_law_240 gL_law_L_hangs rfl ks_L_hangs rfl rfl (Nat.le_of_ble_eq_true rfl) ⟨Nat.le_of_ble_eq_true rfl, Nat.le_of_ble_eq_true rfl⟩ ⟨by show _ ≤ 600130; omega, by show _ ≤ 7301079; omega⟩ (k_I ?_)
        refine j_if_eqB C dL_law_243 (tgt := 355) (by decide) (fun cq243 => absurd cq243 (by decide)) (fun cq243 => ?_)
        refine j_aload_n C dL_law_246 rfl ?_
        refine j_iload C dL_law_247 rfl ?_
        refine j_iconst C dL_law_249 (v := nI 5) (by decide) ?_
        refine j_ishr C dL_law_250 ?_
        refine j_iconst C dL_law_251 (v := nI 4) (by decide) ?_
        refine j_callS C (cl_low (by decide) (by decide)) dL_law_252 gL_law_L_low rfl ks_L_low rfl rfl (Nat.le_of_ble_eq_true rfl) ⟨Nat.le_of_ble_eq_true rfl, Nat.le_of_ble_eq_true rfl⟩ ⟨by show _ ≤ 600130; omega, by show _ ≤ 7301079; omega⟩ (k_I ?_)
        refine j_callS C (cl_labels h (Nat.zero_le 5) (lw_lt (by decide))) dL_law_255 gL_law_L_labels rfl ks_L_labels rfl rfl (Nat.le_of_ble_eq_true rfl) ⟨Nat.le_of_ble_eq_true rfl, Nat.le_of_ble_eq_true rfl⟩ ⟨by show _ ≤ 600130; omega, by show _ ≤ 7301079; omega⟩ (k_IQ fun M2 h2 => ?_)
        refine j_if_eqB C dL_law_258 (tgt := 355) (by decide) (fun cq258 => absurd cq258 (by decide)) (fun cq258 => ?_)
        refine j_aload_n C dL_law_261 rfl ?_
        refine j_iload C dL_law_262 rfl ?_
        refine j_iconst C dL_law_264 (v := nI 3) (by decide) ?_
        refine j_ishr C dL_law_265 ?_
        refine j_iconst C dL_law_266 (v := nI 4) (by decide) ?_
        refine j_callS C (cl_low (by decide) (by decide)) dL_law_267 gL_law_L_low rfl ks_L_low rfl rfl (Nat.le_of_ble_eq_true rfl) ⟨Nat.le_of_ble_eq_true rfl, Nat.le_of_ble_eq_true rfl⟩ ⟨by show _ ≤ 600130; omega, by show _ ≤ 7301079; omega⟩ (k_I ?_)
        refine j_iload C dL_law_270 rfl ?_
        refine j_iconst C dL_law_272 (v := nI 5) (by decide) ?_
        refine j_ishr C dL_law_273 ?_
        refine j_iconst C dL_law_274 (v := nI 4) (by decide) ?_
        refine j_callS C (cl_low (by decide) (by decide)) dL_law_275 gL_law_L_low rfl ks_L_low rfl rfl (Nat.le_of_ble_eq_true rfl) ⟨Nat.le_of_ble_eq_true rfl, Nat.le_of_ble_eq_true rfl⟩ ⟨by show _ ≤ 600130; omega, by show _ ≤ 7301079; omega⟩ (k_I ?_)
        refine j_callS C (cl_borrows h2 (Nat.zero_le 5) (lw_lt (by decide)) (lw_lt (by decide))) dL_law_278 gL_law_L_borrows rfl ks_L_borrows rfl rfl (Nat.le_of_ble_eq_true rfl) ⟨Nat.le_of_ble_eq_true rfl, Nat.le_of_ble_eq_true rfl⟩ ⟨by show _ ≤ 600130; omega, by show _ ≤ 7301079; omega⟩ (k_IQ fun M3 h3 => ?_)
        refine j_if_eqB C dL_law_281 (tgt := 355) (by decide) (fun cq281 => absurd cq281 (by decide)) (fun cq281 => ?_)
        refine j_iload_n C dL_law_284 rfl ?_
        refine j_iconst C dL_law_285 (v := nI 3) (by decide) ?_
        refine j_iremN C dL_law_286 (by omega) (by decide) (by decide) ?_
        refine j_if_gtN C dL_law_287 (tgt := 351) (by decide) (by omega) (fun cq287 => ?_) (fun cq287 => ?_)
        · refine j_iconst C dL_law_351 (v := nI 1) (by decide) ?_
          refine j_goto C dL_law_352 (tgt := 356) (by decide) ?_
          refine j_istore_n C dL_law_356 (by decide) ?_
          refine j_lv (lv2 := [(0, _), (1, _), (2, _), (3, _), (4, _), (5, _)]) rfl ?_
          refine j_iincN C dL_law_357 rfl (by decide) ?_
          refine j_goto C dL_law_360 (tgt := 31) (by decide) ?_
          refine j_widen (k := 101 + 3 * (k + 1)) (n := 3064 + 76 * (k + 1)) (by omega) (by omega) ?_
          exact j_pick [0, 1, 2, 3] (ih31 (by omega) _ _ _ h3)
        · have ha := lw_lt (v := (y >>> (nI 4 &&& 31))) (n := 8) (by decide)
          have hb7 := lw_lt (v := (x >>> (nI 8 &&& 31))) (n := 7) (by decide)
          refine j_aload_n C dL_law_290 rfl ?_
          refine j_iload C dL_law_291 rfl ?_
          refine j_bipush C dL_law_293 (v := nI 6) (by decide) ?_
          refine j_ishr C dL_law_295 ?_
          refine j_iconst C dL_law_296 (v := nI 4) (by decide) ?_
          refine j_callS C (cl_low (by decide) (by decide)) dL_law_297 gL_law_L_low rfl ks_L_low rfl rfl (Nat.le_of_ble_eq_true rfl) ⟨Nat.le_of_ble_eq_true rfl, Nat.le_of_ble_eq_true rfl⟩ ⟨by show _ ≤ 600130; omega, by show _ ≤ 7301079; omega⟩ (k_I ?_)
          refine j_iload C dL_law_300 rfl ?_
          refine j_iconst C dL_law_302 (v := nI 4) (by decide) ?_
          refine j_ishr C dL_law_303 ?_
          refine j_bipush C dL_law_304 (v := nI 8) (by decide) ?_
          refine j_callS C (cl_low (by decide) (by decide)) dL_law_306 gL_law_L_low rfl ks_L_low rfl rfl (Nat.le_of_ble_eq_true rfl) ⟨Nat.le_of_ble_eq_true rfl, Nat.le_of_ble_eq_true rfl⟩ ⟨by show _ ≤ 600130; omega, by show _ ≤ 7301079; omega⟩ (k_I ?_)
          refine j_iload C dL_law_309 rfl ?_
          refine j_iconst C dL_law_311 (v := nI 4) (by decide) ?_
          refine j_ishr C dL_law_312 ?_
          refine j_bipush C dL_law_313 (v := nI 8) (by decide) ?_
          refine j_callS C (cl_low (by decide) (by decide)) dL_law_315 gL_law_L_low rfl ks_L_low rfl rfl (Nat.le_of_ble_eq_true rfl) ⟨Nat.le_of_ble_eq_true rfl, Nat.le_of_ble_eq_true rfl⟩ ⟨by show _ ≤ 600130; omega, by show _ ≤ 7301079; omega⟩ (k_I ?_)
          refine j_iconst C dL_law_318 (v := nI 1) (by decide) ?_
          refine j_iaddN C dL_law_319 ?_
          refine j_iload C dL_law_320 rfl ?_
          refine j_bipush C dL_law_322 (v := nI 8) (by decide) ?_
          refine j_ishr C dL_law_324 ?_
          refine j_bipush C dL_law_325 (v := nI 7) (by decide) ?_
          refine j_callS C (cl_low (by decide) (by decide)) dL_law_327 gL_law_L_low rfl ks_L_low rfl rfl (Nat.le_of_ble_eq_true rfl) ⟨Nat.le_of_ble_eq_true rfl, Nat.le_of_ble_eq_true rfl⟩ ⟨by show _ ≤ 600130; omega, by show _ ≤ 7301079; omega⟩ (k_I ?_)
          refine j_iaddN C dL_law_330 ?_
          refine j_bipush C dL_law_331 (v := nI 8) (by decide) ?_
          refine j_iremN C dL_law_333 (by omega) (by decide) (by decide) ?_
          refine j_iload C dL_law_334 rfl ?_
          refine j_bipush C dL_law_336 (v := nI 7) (by decide) ?_
          refine j_ishr C dL_law_338 ?_
          refine j_sipush C dL_law_339 (v := nI 1000) (by decide) ?_
          refine j_callS C (cl_low (by decide) (by decide)) dL_law_342 gL_law_L_low rfl ks_L_low rfl rfl (Nat.le_of_ble_eq_true rfl) ⟨Nat.le_of_ble_eq_true rfl, Nat.le_of_ble_eq_true rfl⟩ ⟨by show _ ≤ 600130; omega, by show _ ≤ 7301079; omega⟩ (k_I ?_)
          refine j_callS C (cl_corrects h3 (lw_lt (by decide)) ha (Nat.mod_lt _ (by decide)) (by omega) (lw_lt (by decide))) dL_law_345 gL_law_L_corrects rfl ks_L_corrects rfl rfl (Nat.le_of_ble_eq_true rfl) ⟨Nat.le_of_ble_eq_true rfl, Nat.le_of_ble_eq_true rfl⟩ ⟨by show _ ≤ 600130; omega, by show _ ≤ 7301079; omega⟩ (k_IQ fun M4 hq4 => ?_)
          obtain ⟨n4, h4⟩ := hq4
          refine j_if_eqB C dL_law_348 (tgt := 355) (by decide) (fun cq348 => absurd cq348 (by decide)) (fun cq348 => ?_)
          refine j_iconst C dL_law_351 (v := nI 1) (by decide) ?_
          refine j_goto C dL_law_352 (tgt := 356) (by decide) ?_
          refine j_istore_n C dL_law_356 (by decide) ?_
          refine j_lv (lv2 := [(0, _), (1, _), (2, _), (3, _), (4, _), (5, _)]) rfl ?_
          refine j_iincN C dL_law_357 rfl (by decide) ?_
          refine j_goto C dL_law_360 (tgt := 31) (by decide) ?_
          refine j_widen (k := 101 + 3 * (k + 1)) (n := 3064 + 76 * (k + 1)) (by omega) (by omega) ?_
          exact j_pick [0, 1, 2, 3] (ih31 (by omega) _ _ _ h4)
      refine j_aload_n C dL_law_61 rfl ?_
      refine j_bipush C dL_law_62 (v := nI 7) (by decide) ?_
      refine j_callSH C (x_ct7 h) dL_law_64 gL_law_L_count rfl ks_L_count rfl rfl (Nat.le_of_ble_eq_true rfl) ⟨Nat.le_of_ble_eq_true rfl, Nat.le_of_ble_eq_true rfl⟩ ⟨by show _ ≤ 600130; omega, by show _ ≤ 7301079; omega⟩ (k_I ?_)
      refine j_istore C dL_law_67 (by decide) ?_
      refine j_lv (lv2 := [(0, _), (1, _), (2, _), (3, _), (4, _), (5, _), (6, _)]) rfl ?_
      refine j_aload_n C dL_law_69 rfl ?_
      refine j_callS C (cl_print h) dL_law_70 gL_law_L_print rfl ks_L_print rfl rfl (Nat.le_of_ble_eq_true rfl) ⟨Nat.le_of_ble_eq_true rfl, Nat.le_of_ble_eq_true rfl⟩ ⟨by show _ ≤ 600130; omega, by show _ ≤ 7301079; omega⟩ (k_L ?_)
      refine j_lstore C dL_law_73 (by decide) ?_
      refine j_lv (lv2 := [(0, _), (1, _), (2, _), (3, _), (4, _), (5, _), (6, _), (7, _)]) rfl ?_
      refine j_aload_n C dL_law_75 rfl ?_
      have K95 : ∀ x1 : Int32, (0 < k → x1 = x) → J G p l e room_1 s m #[.ref b] below meth c A 10 Q (101 + 3 * k) (3064 + 76 * k) 95 [(0, .ref b), (1, .ref (G.2.2 72)), (2, .int (nI 1)), (3, .int (nI k)), (4, .int x), (5, .int y), (6, .int (nI n)), (7, .long (prS σ))] [.int x1, .ref (G.2.2 72)] (M) := by
        intro x1 hx1
        refine j_iload C dL_law_95 rfl ?_
        refine j_callSWc C hXw (cl_act h hl) dL_law_97 gL_law_L_act rfl ks_L_act rfl rfl (Nat.le_of_ble_eq_true rfl) ⟨Nat.le_of_ble_eq_true rfl, Nat.le_of_ble_eq_true rfl⟩ ⟨by show _ ≤ 600130; omega, by show _ ≤ 7301079; omega⟩ (k_IQ fun M1 hq1 => ?_)
        refine j_istore C dL_law_100 (by decide) ?_
        refine j_lv (lv2 := [(0, _), (1, _), (2, _), (3, _), (4, _), (5, _), (6, _), (7, _), (9, _)]) rfl ?_
        refine j_iload C dL_law_102 rfl ?_
        refine j_sipush C dL_law_104 (v := -1000) (by decide) ?_
        refine j_icmp_ge C dL_law_107 (tgt := 140) (by decide) (fun cq107 => ?_) (fun cq107 => ?_)
        · obtain ⟨τ, h1⟩ := act_ok hq1 cq107
          have hn6 := h.n6
          obtain ⟨hs1, hs2, hs3⟩ := svN_s hn6
          refine j_aload_n C dL_law_140 rfl ?_
          refine j_bipush C dL_law_141 (v := nI 7) (by decide) ?_
          refine j_callSH C (x_ct7 h1) dL_law_143 gL_law_L_count rfl ks_L_count rfl rfl (Nat.le_of_ble_eq_true rfl) ⟨Nat.le_of_ble_eq_true rfl, Nat.le_of_ble_eq_true rfl⟩ ⟨by show _ ≤ 600130; omega, by show _ ≤ 7301079; omega⟩ (k_I ?_)
          refine j_cutI 162 (nI (svN n)) ?_ (fun K162 => ?_)
          · refine j_icmp_ne C dL_law_162 (tgt := 169) (by decide) (fun q9 => (q9 (rfl)).elim) (fun _ => ?_)
            refine j_iconst C dL_law_165 (v := nI 1) (by decide) ?_
            refine j_goto C dL_law_166 (tgt := 170) (by decide) ?_
            refine j_istore_n C dL_law_170 (by decide) ?_
            refine j_lv (lv2 := [(0, _), (1, _), (2, _), (3, _), (4, _), (5, _), (6, _), (7, _), (9, _)]) rfl ?_
            refine j_iload_n C dL_law_171 rfl ?_
            refine j_if_eqN C dL_law_172 (tgt := 235) (by decide) (by omega) (fun cq172 => absurd cq172 (by decide)) (fun cq172 => ?_)
            refine j_iload_n C dL_law_175 rfl ?_
            refine j_if_leN C dL_law_176 (tgt := 235) (by decide) (by omega) (fun cq176 => ?_) (fun cq176 => ?_)
            · refine j_widen (k := 103 + 3 * k) (n := 3076 + 76 * k) (by omega) (by omega) ?_
              exact j_pick [0, 1, 2, 3, 4, 5] (K235 _ _ _ (h1.nil))
            · refine j_iload C dL_law_179 rfl ?_
              refine j_bipush C dL_law_181 (v := nI 6) (by decide) ?_
              refine j_icmp_geN C dL_law_183 (tgt := 235) (by decide) (by omega) (by omega) (fun cq183 => ?_) (fun cq183 => ?_)
              · refine j_widen (k := 103 + 3 * k) (n := 3076 + 76 * k) (by omega) (by omega) ?_
                exact j_pick [0, 1, 2, 3, 4, 5] (K235 _ _ _ (h1.nil))
              · refine j_iload C dL_law_186 rfl ?_
                refine j_iconst C dL_law_188 (v := nI 5) (by decide) ?_
                refine j_ishr C dL_law_189 ?_
                refine j_iconst C dL_law_190 (v := nI 3) (by decide) ?_
                refine j_callS C (cl_low (by decide) (by decide)) dL_law_191 gL_law_L_low rfl ks_L_low rfl rfl (Nat.le_of_ble_eq_true rfl) ⟨Nat.le_of_ble_eq_true rfl, Nat.le_of_ble_eq_true rfl⟩ ⟨by show _ ≤ 600130; omega, by show _ ≤ 7301079; omega⟩ (k_I ?_)
                refine j_if_neN C dL_law_194 (tgt := 235) (by decide) (Nat.lt_trans (lw_lt (by decide)) (by decide)) (fun cq194 => ?_) (fun cq194 => ?_)
                · refine j_widen (k := 103 + 3 * k) (n := 3076 + 76 * k) (by omega) (by omega) ?_
                  exact j_pick [0, 1, 2, 3, 4, 5] (K235 _ _ _ (h1.nil))
                · refine j_aload_n C dL_law_197 rfl ?_
                  refine j_callSH C (x_und h1) dL_law_198 gL_law_L_undo rfl ks_L_undo rfl rfl (Nat.le_of_ble_eq_true rfl) ⟨Nat.le_of_ble_eq_true rfl, Nat.le_of_ble_eq_true rfl⟩ ⟨by show _ ≤ 600130; omega, by show _ ≤ 7301079; omega⟩ (k_IQ fun M2 h2 => ?_)
                  refine j_top C (nI n) (congrArg nI (by rw [hs3, if_pos cq183]; omega)) ?_
                  refine j_iload C dL_law_201 rfl ?_
                  refine j_icmp_ne C dL_law_203 (tgt := 233) (by decide) (fun q9 => (q9 (rfl)).elim) (fun _ => ?_)
                  refine j_aload_n C dL_law_206 rfl ?_
                  refine j_callS C (cl_print h2) dL_law_207 gL_law_L_print rfl ks_L_print rfl rfl (Nat.le_of_ble_eq_true rfl) ⟨Nat.le_of_ble_eq_true rfl, Nat.le_of_ble_eq_true rfl⟩ ⟨by show _ ≤ 600130; omega, by show _ ≤ 7301079; omega⟩ (k_L ?_)
                  refine j_lload C dL_law_210 rfl ?_
                  refine j_lcmp C dL_law_212 ?_
                  refine j_top C (nI 0) (lg_self _) ?_
                  refine j_if_neN C dL_law_213 (tgt := 233) (by decide) (by omega) (fun cq213 => absurd cq213 (by decide)) (fun cq213 => ?_)
                  refine j_aload_n C dL_law_216 rfl ?_
                  refine j_iload C dL_law_217 rfl ?_
                  refine j_iload C dL_law_219 rfl ?_
                  refine j_callSWc C hXw (cl_act h2 hl) dL_law_221 gL_law_L_act rfl ks_L_act rfl rfl (Nat.le_of_ble_eq_true rfl) ⟨Nat.le_of_ble_eq_true rfl, Nat.le_of_ble_eq_true rfl⟩ ⟨by show _ ≤ 600130; omega, by show _ ≤ 7301079; omega⟩ (k_IQ fun M3 hq3 => ?_)
                  refine j_iload C dL_law_224 rfl ?_
                  refine j_icmp_ne C dL_law_226 (tgt := 233) (by decide) (fun q9 => (q9 ((by rw [hx1 cq176]))).elim) (fun _ => ?_)
                  refine j_iconst C dL_law_229 (v := nI 1) (by decide) ?_
                  refine j_goto C dL_law_230 (tgt := 234) (by decide) ?_
                  refine j_istore_n C dL_law_234 (by decide) ?_
                  refine j_lv (lv2 := [(0, _), (1, _), (2, _), (3, _), (4, _), (5, _), (6, _), (7, _), (9, _)]) rfl ?_
                  obtain ⟨τ2, n2, h5⟩ := act_any hq3
                  refine j_widen (k := 103 + 3 * k) (n := 3076 + 76 * k) (by omega) (by omega) ?_
                  exact j_pick [0, 1, 2, 3, 4, 5] (K235 _ _ _ (h5))
          · refine j_iload C dL_law_146 rfl ?_
            refine j_bipush C dL_law_148 (v := nI 6) (by decide) ?_
            refine j_icmp_geN C dL_law_150 (tgt := 160) (by decide) (by omega) (by omega) (fun cq150 => ?_) (fun cq150 => ?_)
            · refine j_bipush C dL_law_160 (v := nI 6) (by decide) ?_
              refine j_top C (nI (svN n)) (congrArg nI (by rw [hs3, if_neg (by omega)])) ?_
              exact K162
            · refine j_iload C dL_law_153 rfl ?_
              refine j_iconst C dL_law_155 (v := nI 1) (by decide) ?_
              refine j_iaddN C dL_law_156 ?_
              refine j_goto C dL_law_157 (tgt := 162) (by decide) ?_
              refine j_top C (nI (svN n)) (congrArg nI (by rw [hs3, if_pos cq150])) ?_
              exact K162
        · have h1 := act_no hq1 cq107
          refine j_aload_n C dL_law_110 rfl ?_
          refine j_bipush C dL_law_111 (v := nI 7) (by decide) ?_
          refine j_callSH C (x_ct7 h1) dL_law_113 gL_law_L_count rfl ks_L_count rfl rfl (Nat.le_of_ble_eq_true rfl) ⟨Nat.le_of_ble_eq_true rfl, Nat.le_of_ble_eq_true rfl⟩ ⟨by show _ ≤ 600130; omega, by show _ ≤ 7301079; omega⟩ (k_I ?_)
          refine j_iload C dL_law_116 rfl ?_
          refine j_icmp_ne C dL_law_118 (tgt := 135) (by decide) (fun q9 => (q9 (rfl)).elim) (fun _ => ?_)
          refine j_aload_n C dL_law_121 rfl ?_
          refine j_callS C (cl_print h1) dL_law_122 gL_law_L_print rfl ks_L_print rfl rfl (Nat.le_of_ble_eq_true rfl) ⟨Nat.le_of_ble_eq_true rfl, Nat.le_of_ble_eq_true rfl⟩ ⟨by show _ ≤ 600130; omega, by show _ ≤ 7301079; omega⟩ (k_L ?_)
          refine j_lload C dL_law_125 rfl ?_
          refine j_lcmp C dL_law_127 ?_
          refine j_top C (nI 0) (lg_self _) ?_
          refine j_if_neN C dL_law_128 (tgt := 135) (by decide) (by omega) (fun cq128 => absurd cq128 (by decide)) (fun cq128 => ?_)
          refine j_iconst C dL_law_131 (v := nI 1) (by decide) ?_
          refine j_goto C dL_law_132 (tgt := 136) (by decide) ?_
          refine j_istore_n C dL_law_136 (by decide) ?_
          refine j_lv (lv2 := [(0, _), (1, _), (2, _), (3, _), (4, _), (5, _), (6, _), (7, _), (9, _)]) rfl ?_
          refine j_goto C dL_law_137 (tgt := 235) (by decide) ?_
          refine j_widen (k := 103 + 3 * k) (n := 3076 + 76 * k) (by omega) (by omega) ?_
          exact j_pick [0, 1, 2, 3, 4, 5] (K235 _ _ _ (h1))
      refine j_iload_n C dL_law_76 rfl ?_
      refine j_if_neN C dL_law_77 (tgt := 93) (by decide) (by omega) (fun cq77 => ?_) (fun cq77 => ?_)
      · refine j_iload C dL_law_93 rfl ?_
        exact K95 _ (fun _ => rfl)
      · refine j_iload C dL_law_80 rfl ?_
        refine j_iload C dL_law_82 rfl ?_
        refine j_bipush C dL_law_84 (v := nI 14) (by decide) ?_
        refine j_callS C (cl_low (by decide) (by decide)) dL_law_86 gL_law_L_low rfl ks_L_low rfl rfl (Nat.le_of_ble_eq_true rfl) ⟨Nat.le_of_ble_eq_true rfl, Nat.le_of_ble_eq_true rfl⟩ ⟨by show _ ≤ 600130; omega, by show _ ≤ 7301079; omega⟩ (k_I ?_)
        refine j_isub C dL_law_89 ?_
        refine j_goto C dL_law_90 (tgt := 95) (by decide) ?_
        exact K95 _ (fun q => absurd q (by omega))
  exact L31 0 (by omega) M1 σ _ h1
