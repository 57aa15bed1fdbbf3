section JLaw
variable {G : GG} {p : Program} {l : Launch} {e : Env} {R : Room} {s : State} {m : MethodId} {args : Array Value} {below : List Frame} {meth : Method} {c : Code} {A : Nat → Prop} {nL : Nat} {Q : State → Prop} {k9 n9 pc : Nat} {lv : List (Nat × Value)} {st : List Value} {M : MM} {cc : ByteArray} {own : String} {Ts : List Cond} {Qf : Option Value → MM → Prop}
theorem j_sld (C : Cx G p s m args meth c A cc nL own Ts) {b L a : Nat} {xs : Nat → Int32} (hX9 : va_X b L xs s s.heap) (hbl : b < s.heap.size) (hbA : ¬ A b) (hd : decode cc pc = .ok (.iaload, 1)) (ha : a < L) (hL : L < 2 ^ 31)
    (k : J G p l e R s m args below meth c A nL Q k9 n9 (pc + 1) lv (.int (xs a) :: st) M)
    : J G p l e R s m args below meth c A nL Q k9 n9 pc lv (.int (nI a) :: .ref b :: st) M := by
  intro H locs ls hP hS hv
  have k2 := k H locs ls hP hS hv
  rw [← nI_clamp (Nat.lt_trans ha hL)] at k2
  exact va_sld C.1 C.2.1 hX9 hbl hbA hS (vp_in_nI ha hL) hd k2
theorem j_slen (C : Cx G p s m args meth c A cc nL own Ts) {b L : Nat} {xs : Nat → Int32} (hX9 : va_X b L xs s s.heap) (hbl : b < s.heap.size) (hbA : ¬ A b) (hd : decode cc pc = .ok (.arraylength, 1))
    (k : J G p l e R s m args below meth c A nL Q k9 n9 (pc + 1) lv (.int (nI L) :: st) M)
    : J G p l e R s m args below meth c A nL Q k9 n9 pc lv (.ref b :: st) M := by
  intro H locs ls hP hS hv
  exact va_slen C.1 C.2.1 hX9 hbl hbA hS hd (k H locs ls hP hS hv)
theorem j_runW (C : Cx G p s m args meth c A cc nL own Ts) {rest st0 : List Value} {a9 : Array Value}
    (hr : ∀ (H : Heap) (locs : List Loc) (ls : Array Slot), va_P G.1 vwCl (WS G M) H → va_S A s.heap H locs → lv_has ls nL lv → va_Run p l e R s m args below meth c H locs k9 n9 1 6 (F0 m pc ls st0) rest (QQ G Qf (AA G H.size) a9) (AA G H.size))
    (k : ∀ (v : Option Value) (M' : MM), Qf v M' → J G p l e R s m args below meth c A nL Q (k9 + 1) (n9 + 6) (pc + 3) lv (v.toList ++ rest) M') : J G p l e R s m args below meth c A nL Q k9 n9 pc lv st0 M := by
  intro H locs ls hP hS hv T hT X
  obtain ⟨v, s9, t, T', L, h0, X', hL, e1, e2, ⟨⟨v', M', hv', hq, hP1⟩, hz, hk⟩, st9⟩ := hr H locs ls hP hS hv T hT X
  cases hv'
  rw [h0] at hz hk
  have hA := AA_sub C.2.2.2.2.2.2.2.2.1 C.2.2.2.2.2.2.2.2.2 hS.1
  obtain ⟨t2, a1, b1⟩ := k v M' hq T'.heap (locs ++ L) ls (by rw [e1]; exact hP1)
    ⟨Nat.le_trans hS.1 (by rw [e1]; exact hz), fun q h1 h2 => by rw [e1, hk q (Nat.lt_of_lt_of_le h1 hS.1) (fun z => h2 (hA q z))]; exact hS.2.1 q h1 h2, fun q hq => by
      rcases List.mem_append.mp hq with h | h
      · exact hS.2.2 q h
      · exact hA _ (hL q h)⟩ hv T' rfl X'
  exact ⟨t2, st9 t2 a1, b1⟩
theorem j_callSW (C : Cx G p s m args meth c A cc nL own Ts) (hX : XW A s) {index d maxL n : Nat} {hh : List (Nat × Nat × Nat × Nat)} {As rest st0 : List Value} {y : MethodName} {ws' ws2 : List Cond} {bytes : ByteArray} {ret : Option FieldType}
    (hC : Cw l G y ws' d As M Qf) (hd : decode cc pc = .ok (.invokestatic index, 3)) (hG : GoodIn Ts (va_wsS own index y ws')) (hw : ws' = Cond.codeWith y bytes maxL ret hh :: ws2)
    (hy : y.cls ≠ "java/lang/invoke/MethodHandle" ∧ y.cls ≠ "java/lang/invoke/VarHandle" ∧ (parseMethodDescriptor y.desc).map (fun d => d.parameters.length) = some n) (hn : As.length = n) (hst : st0 = As.reverse ++ rest) (hcat : (rest.map fun v => v.category).sum ≤ 8) (hR : (rmX d).frames + 1 ≤ R.frames ∧ 8 + (maxL + 11) + (rmX d).locals ≤ R.locals) (hkn : k9 + 1 ≤ R.cells ∧ n9 + 6 ≤ R.slots)
    (k : ∀ (v : Option Value) (M' : MM), Qf v M' → J G p l e R s m args below meth c A nL Q (k9 + 1) (n9 + 6) (pc + 3) lv (v.toList ++ rest) M') : J G p l e R s m args below meth c A nL Q k9 n9 pc lv st0 M := by
  refine j_runW C (rest := rest) (a9 := As.toArray) (fun H locs ls hP hS hv => ?_) k
  have hA := AA_sub C.2.2.2.2.2.2.2.2.1 C.2.2.2.2.2.2.2.2.2 hS.1
  exact vx_runSW (As := As) (rest := rest) ⟨C.1, C.2.1, C.2.2.1, C.2.2.2.1, C.2.2.2.2.1⟩ (hC H.size) (vx_cwSW n C.2.2.2.2.1 hG hw rfl rfl hy hR) ⟨WX.blind, fun U hU hW => ⟨rfl, by rw [hU], ⟨by rw [hU]; exact hP, C.2.2.2.2.2.2.1.warm hW, C.2.2.2.2.2.2.2.1⟩, hX.at hS hA hU hW⟩⟩ rfl hn hv.1 hst (lv_room hcat) hd hkn
theorem k_MQ {P : Int32 → MM → Prop} {rest : List Value} {pc1 : Nat} (k : ∀ (b : Int32) (M' : MM), P b M' → J G p l e R s m args below meth c A nL Q k9 n9 pc1 lv (.int b :: rest) M') : ∀ (v : Option Value) (M' : MM), (∃ b : Int32, v = some (.int b) ∧ P b M') → J G p l e R s m args below meth c A nL Q k9 n9 pc1 lv (v.toList ++ rest) M' := by
  rintro v M' ⟨b, rfl, h⟩; exact k b M' h
end JLaw
theorem lg_self (x : Int64) : lg_cmp x x = nI 0 := by
  unfold lg_cmp
  rw [if_neg (fun h => absurd (Int64.lt_iff_toInt_lt.mp h) (Int.lt_irrefl _)), if_pos rfl]; rfl
theorem Xm.oz {M M1 : MM} {S : SS} (h : Xm M S) (ho : Oz M M1) : Xm M1 S := by
  obtain ⟨a1, a2, a3, a4, a5⟩ := h
  have e4 := (ho 84 (by unfold inX; omega)).2
  have e5 := (ho 85 (by unfold inX; omega)).1
  have e6 := (ho 86 (by unfold inX; omega)).1
  have e7 := (ho 87 (by unfold inX; omega)).1
  exact ⟨fun k hk => by rw [e5]; exact a1 k hk, ⟨a2.1, by rw [e4]; exact a2.2.1, fun k hk j hj => by rw [e5]; exact a2.2.2 k hk j hj⟩, fun t ht => by rw [e6]; exact a3 t ht, fun t ht hf k hk => by rw [e5]; exact a4 t ht hf k hk, a5.1, by rw [e4]; exact a5.2.1, fun j hj => by rw [e7]; exact a5.2.2.1 j hj, a5.2.2.2⟩
theorem Xc.offM {M M1 : MM} {S : SS} (h : Xc M S) (ho : Off M M1 inM) : Xc M1 S := h.off ho (fun a ha => by unfold inM; omega) (fun j hj => by rw [(ho.1 83 (by unfold inM; omega)).1]; exact h.2.2.2.2.2 j hj)
theorem Of.oz {M M1 : MM} (h : Of M M1 inX) : Oz M M1 := fun a ha => h.1 a ha
theorem law_in {L i : Nat} (hL : L ≤ 2048) (hi : i ≤ 4096) (h : ¬ nI L - nI 4 < nI i) : i + 4 ≤ L := by
  rcases Nat.lt_or_ge L 4 with h4 | h4
  · exfalso
    apply h
    have e : ∀ L, L < 4 → (nI L - nI 4).toInt < 0 := by decide +kernel
    rw [Int32.lt_iff_toInt_lt, nI_toInt (by omega)]
    exact Int.lt_of_lt_of_le (e L h4) (Int.natCast_nonneg i)
  · rw [pk_sub h4] at h
    have h5 := Nat.not_lt.mp (fun q => h ((nI_ltI (by omega) (by omega)).mpr q))
    omega
theorem Off_out {M M1 : MM} {P : Nat → Prop} (h : Off M M1 P) : M1.2.2.2 0 = M.2.2.2 0 := by rw [h.2]
set_option maxRecDepth 20000 in
theorem ks_L_mix : yL_mix.cls ≠ "java/lang/invoke/MethodHandle" ∧ yL_mix.cls ≠ "java/lang/invoke/VarHandle" ∧ (parseMethodDescriptor yL_mix.desc).map (fun d => d.parameters.length) = some 5 := by decide +kernel
set_option maxRecDepth 20000 in
theorem kd_X6_mix : yX6_mix.cls = RX6 ∧ yX6_mix.cls ≠ "java/lang/invoke/MethodHandle" ∧ yX6_mix.cls ≠ "java/lang/invoke/VarHandle" ∧ (parseMethodDescriptor yX6_mix.desc).map (fun d => d.parameters.length) = some 3 := by decide +kernel
set_option maxRecDepth 20000 in
theorem kd_X6_thrown : yX6_thrown.cls = RX6 ∧ yX6_thrown.cls ≠ "java/lang/invoke/MethodHandle" ∧ yX6_thrown.cls ≠ "java/lang/invoke/VarHandle" ∧ (parseMethodDescriptor yX6_thrown.desc).map (fun d => d.parameters.length) = some 0 := by decide +kernel
set_option maxRecDepth 20000 in
theorem ks_L_painter : yL_painter.cls ≠ "java/lang/invoke/MethodHandle" ∧ yL_painter.cls ≠ "java/lang/invoke/VarHandle" ∧ (parseMethodDescriptor yL_painter.desc).map (fun d => d.parameters.length) = some 5 := by decide +kernel
set_option maxRecDepth 20000 in
theorem kd_X6_painter : yX6_painter.cls = RX6 ∧ yX6_painter.cls ≠ "java/lang/invoke/MethodHandle" ∧ yX6_painter.cls ≠ "java/lang/invoke/VarHandle" ∧ (parseMethodDescriptor yX6_painter.desc).map (fun d => d.parameters.length) = some 3 := by decide +kernel
set_option maxRecDepth 20000 in
theorem ks_L_borrow : yL_borrow.cls ≠ "java/lang/invoke/MethodHandle" ∧ yL_borrow.cls ≠ "java/lang/invoke/VarHandle" ∧ (parseMethodDescriptor yL_borrow.desc).map (fun d => d.parameters.length) = some 4 := by decide +kernel
set_option maxRecDepth 20000 in
theorem kd_X6_borrow : yX6_borrow.cls = RX6 ∧ yX6_borrow.cls ≠ "java/lang/invoke/MethodHandle" ∧ yX6_borrow.cls ≠ "java/lang/invoke/VarHandle" ∧ (parseMethodDescriptor yX6_borrow.desc).map (fun d => d.parameters.length) = some 2 := by decide +kernel
set_option maxRecDepth 20000 in
theorem ks_L_label : yL_label.cls ≠ "java/lang/invoke/MethodHandle" ∧ yL_label.cls ≠ "java/lang/invoke/VarHandle" ∧ (parseMethodDescriptor yL_label.desc).map (fun d => d.parameters.length) = some 4 := by decide +kernel
set_option maxRecDepth 20000 in
theorem kd_X6_label : yX6_label.cls = RX6 ∧ yX6_label.cls ≠ "java/lang/invoke/MethodHandle" ∧ yX6_label.cls ≠ "java/lang/invoke/VarHandle" ∧ (parseMethodDescriptor yX6_label.desc).map (fun d => d.parameters.length) = some 2 := by decide +kernel
set_option maxRecDepth 20000 in
theorem ks_L_labelAll : yL_labelAll.cls ≠ "java/lang/invoke/MethodHandle" ∧ yL_labelAll.cls ≠ "java/lang/invoke/VarHandle" ∧ (parseMethodDescriptor yL_labelAll.desc).map (fun d => d.parameters.length) = some 3 := by decide +kernel
set_option maxRecDepth 20000 in
theorem kd_X6_labelAll : yX6_labelAll.cls = RX6 ∧ yX6_labelAll.cls ≠ "java/lang/invoke/MethodHandle" ∧ yX6_labelAll.cls ≠ "java/lang/invoke/VarHandle" ∧ (parseMethodDescriptor yX6_labelAll.desc).map (fun d => d.parameters.length) = some 1 := by decide +kernel
set_option maxRecDepth 20000 in
theorem ks_L_hang : yL_hang.cls ≠ "java/lang/invoke/MethodHandle" ∧ yL_hang.cls ≠ "java/lang/invoke/VarHandle" ∧ (parseMethodDescriptor yL_hang.desc).map (fun d => d.parameters.length) = some 4 := by decide +kernel
set_option maxRecDepth 20000 in
theorem kd_X6_hang : yX6_hang.cls = RX6 ∧ yX6_hang.cls ≠ "java/lang/invoke/MethodHandle" ∧ yX6_hang.cls ≠ "java/lang/invoke/VarHandle" ∧ (parseMethodDescriptor yX6_hang.desc).map (fun d => d.parameters.length) = some 2 := by decide +kernel
set_option maxRecDepth 20000 in
theorem ks_L_takeDown : yL_takeDown.cls ≠ "java/lang/invoke/MethodHandle" ∧ yL_takeDown.cls ≠ "java/lang/invoke/VarHandle" ∧ (parseMethodDescriptor yL_takeDown.desc).map (fun d => d.parameters.length) = some 3 := by decide +kernel
set_option maxRecDepth 20000 in
theorem kd_X6_takeDown : yX6_takeDown.cls = RX6 ∧ yX6_takeDown.cls ≠ "java/lang/invoke/MethodHandle" ∧ yX6_takeDown.cls ≠ "java/lang/invoke/VarHandle" ∧ (parseMethodDescriptor yX6_takeDown.desc).map (fun d => d.parameters.length) = some 1 := by decide +kernel
set_option maxRecDepth 20000 in
theorem ks_L_correct : yL_correct.cls ≠ "java/lang/invoke/MethodHandle" ∧ yL_correct.cls ≠ "java/lang/invoke/VarHandle" ∧ (parseMethodDescriptor yL_correct.desc).map (fun d => d.parameters.length) = some 4 := by decide +kernel
set_option maxRecDepth 20000 in
theorem kd_X6_correct : yX6_correct.cls = RX6 ∧ yX6_correct.cls ≠ "java/lang/invoke/MethodHandle" ∧ yX6_correct.cls ≠ "java/lang/invoke/VarHandle" ∧ (parseMethodDescriptor yX6_correct.desc).map (fun d => d.parameters.length) = some 2 := by decide +kernel
set_option maxRecDepth 20000 in
theorem ks_L_append : yL_append.cls ≠ "java/lang/invoke/MethodHandle" ∧ yL_append.cls ≠ "java/lang/invoke/VarHandle" ∧ (parseMethodDescriptor yL_append.desc).map (fun d => d.parameters.length) = some 3 := by decide +kernel
set_option maxRecDepth 20000 in
theorem kd_X6_append : yX6_append.cls = RX6 ∧ yX6_append.cls ≠ "java/lang/invoke/MethodHandle" ∧ yX6_append.cls ≠ "java/lang/invoke/VarHandle" ∧ (parseMethodDescriptor yX6_append.desc).map (fun d => d.parameters.length) = some 1 := by decide +kernel
set_option maxRecDepth 20000 in
theorem kd_X5_clearBuffer : yX5_clearBuffer.cls = RX5 ∧ yX5_clearBuffer.cls ≠ "java/lang/invoke/MethodHandle" ∧ yX5_clearBuffer.cls ≠ "java/lang/invoke/VarHandle" ∧ (parseMethodDescriptor yX5_clearBuffer.desc).map (fun d => d.parameters.length) = some 0 := by decide +kernel
set_option maxRecDepth 20000 in
theorem kd_X6_clearBuffer : yX6_clearBuffer.cls = RX6 ∧ yX6_clearBuffer.cls ≠ "java/lang/invoke/MethodHandle" ∧ yX6_clearBuffer.cls ≠ "java/lang/invoke/VarHandle" ∧ (parseMethodDescriptor yX6_clearBuffer.desc).map (fun d => d.parameters.length) = some 0 := by decide +kernel
set_option maxRecDepth 20000 in
theorem kd_X5_firstError : yX5_firstError.cls = RX5 ∧ yX5_firstError.cls ≠ "java/lang/invoke/MethodHandle" ∧ yX5_firstError.cls ≠ "java/lang/invoke/VarHandle" ∧ (parseMethodDescriptor yX5_firstError.desc).map (fun d => d.parameters.length) = some 0 := by decide +kernel
set_option maxRecDepth 20000 in
theorem kd_X6_firstError : yX6_firstError.cls = RX6 ∧ yX6_firstError.cls ≠ "java/lang/invoke/MethodHandle" ∧ yX6_firstError.cls ≠ "java/lang/invoke/VarHandle" ∧ (parseMethodDescriptor yX6_firstError.desc).map (fun d => d.parameters.length) = some 0 := by decide +kernel
set_option maxRecDepth 20000 in
theorem ks_L_load : yL_load.cls ≠ "java/lang/invoke/MethodHandle" ∧ yL_load.cls ≠ "java/lang/invoke/VarHandle" ∧ (parseMethodDescriptor yL_load.desc).map (fun d => d.parameters.length) = some 2 := by decide +kernel
set_option maxRecDepth 20000 in
theorem kd_X6_load : yX6_load.cls = RX6 ∧ yX6_load.cls ≠ "java/lang/invoke/MethodHandle" ∧ yX6_load.cls ≠ "java/lang/invoke/VarHandle" ∧ (parseMethodDescriptor yX6_load.desc).map (fun d => d.parameters.length) = some 0 := by decide +kernel
set_option maxRecDepth 20000 in
theorem ks_L_keep : yL_keep.cls ≠ "java/lang/invoke/MethodHandle" ∧ yL_keep.cls ≠ "java/lang/invoke/VarHandle" ∧ (parseMethodDescriptor yL_keep.desc).map (fun d => d.parameters.length) = some 3 := by decide +kernel
set_option maxRecDepth 20000 in
theorem kd_X6_keep : yX6_keep.cls = RX6 ∧ yX6_keep.cls ≠ "java/lang/invoke/MethodHandle" ∧ yX6_keep.cls ≠ "java/lang/invoke/VarHandle" ∧ (parseMethodDescriptor yX6_keep.desc).map (fun d => d.parameters.length) = some 1 := by decide +kernel
set_option maxRecDepth 20000 in
theorem ks_L_goBack : yL_goBack.cls ≠ "java/lang/invoke/MethodHandle" ∧ yL_goBack.cls ≠ "java/lang/invoke/VarHandle" ∧ (parseMethodDescriptor yL_goBack.desc).map (fun d => d.parameters.length) = some 3 := by decide +kernel
set_option maxRecDepth 20000 in
theorem kd_X6_goBack : yX6_goBack.cls = RX6 ∧ yX6_goBack.cls ≠ "java/lang/invoke/MethodHandle" ∧ yX6_goBack.cls ≠ "java/lang/invoke/VarHandle" ∧ (parseMethodDescriptor yX6_goBack.desc).map (fun d => d.parameters.length) = some 1 := by decide +kernel
set_option maxRecDepth 20000 in
theorem ks_L_undo : yL_undo.cls ≠ "java/lang/invoke/MethodHandle" ∧ yL_undo.cls ≠ "java/lang/invoke/VarHandle" ∧ (parseMethodDescriptor yL_undo.desc).map (fun d => d.parameters.length) = some 2 := by decide +kernel
set_option maxRecDepth 20000 in
theorem kd_X6_undo : yX6_undo.cls = RX6 ∧ yX6_undo.cls ≠ "java/lang/invoke/MethodHandle" ∧ yX6_undo.cls ≠ "java/lang/invoke/VarHandle" ∧ (parseMethodDescriptor yX6_undo.desc).map (fun d => d.parameters.length) = some 0 := by decide +kernel
set_option maxRecDepth 20000 in
theorem ks_L_potOf : yL_potOf.cls ≠ "java/lang/invoke/MethodHandle" ∧ yL_potOf.cls ≠ "java/lang/invoke/VarHandle" ∧ (parseMethodDescriptor yL_potOf.desc).map (fun d => d.parameters.length) = some 4 := by decide +kernel
set_option maxRecDepth 20000 in
theorem kd_X6_potOf : yX6_potOf.cls = RX6 ∧ yX6_potOf.cls ≠ "java/lang/invoke/MethodHandle" ∧ yX6_potOf.cls ≠ "java/lang/invoke/VarHandle" ∧ (parseMethodDescriptor yX6_potOf.desc).map (fun d => d.parameters.length) = some 2 := by decide +kernel
set_option maxRecDepth 20000 in
theorem ks_L_seen : yL_seen.cls ≠ "java/lang/invoke/MethodHandle" ∧ yL_seen.cls ≠ "java/lang/invoke/VarHandle" ∧ (parseMethodDescriptor yL_seen.desc).map (fun d => d.parameters.length) = some 4 := by decide +kernel
set_option maxRecDepth 20000 in
theorem kd_X6_seen : yX6_seen.cls = RX6 ∧ yX6_seen.cls ≠ "java/lang/invoke/MethodHandle" ∧ yX6_seen.cls ≠ "java/lang/invoke/VarHandle" ∧ (parseMethodDescriptor yX6_seen.desc).map (fun d => d.parameters.length) = some 2 := by decide +kernel
set_option maxRecDepth 20000 in
theorem ks_L_painterOf : yL_painterOf.cls ≠ "java/lang/invoke/MethodHandle" ∧ yL_painterOf.cls ≠ "java/lang/invoke/VarHandle" ∧ (parseMethodDescriptor yL_painterOf.desc).map (fun d => d.parameters.length) = some 4 := by decide +kernel
set_option maxRecDepth 20000 in
theorem kd_X6_painterOf : yX6_painterOf.cls = RX6 ∧ yX6_painterOf.cls ≠ "java/lang/invoke/MethodHandle" ∧ yX6_painterOf.cls ≠ "java/lang/invoke/VarHandle" ∧ (parseMethodDescriptor yX6_painterOf.desc).map (fun d => d.parameters.length) = some 2 := by decide +kernel
set_option maxRecDepth 20000 in
theorem ks_L_apart : yL_apart.cls ≠ "java/lang/invoke/MethodHandle" ∧ yL_apart.cls ≠ "java/lang/invoke/VarHandle" ∧ (parseMethodDescriptor yL_apart.desc).map (fun d => d.parameters.length) = some 5 := by decide +kernel
set_option maxRecDepth 20000 in
theorem kd_X6_apart : yX6_apart.cls = RX6 ∧ yX6_apart.cls ≠ "java/lang/invoke/MethodHandle" ∧ yX6_apart.cls ≠ "java/lang/invoke/VarHandle" ∧ (parseMethodDescriptor yX6_apart.desc).map (fun d => d.parameters.length) = some 3 := by decide +kernel
set_option maxRecDepth 20000 in
theorem ks_L_chartOf : yL_chartOf.cls ≠ "java/lang/invoke/MethodHandle" ∧ yL_chartOf.cls ≠ "java/lang/invoke/VarHandle" ∧ (parseMethodDescriptor yL_chartOf.desc).map (fun d => d.parameters.length) = some 4 := by decide +kernel
set_option maxRecDepth 20000 in
theorem kd_X6_chartOf : yX6_chartOf.cls = RX6 ∧ yX6_chartOf.cls ≠ "java/lang/invoke/MethodHandle" ∧ yX6_chartOf.cls ≠ "java/lang/invoke/VarHandle" ∧ (parseMethodDescriptor yX6_chartOf.desc).map (fun d => d.parameters.length) = some 2 := by decide +kernel
set_option maxRecDepth 20000 in
theorem ks_L_count : yL_count.cls ≠ "java/lang/invoke/MethodHandle" ∧ yL_count.cls ≠ "java/lang/invoke/VarHandle" ∧ (parseMethodDescriptor yL_count.desc).map (fun d => d.parameters.length) = some 3 := by decide +kernel
set_option maxRecDepth 20000 in
theorem kd_X6_count : yX6_count.cls = RX6 ∧ yX6_count.cls ≠ "java/lang/invoke/MethodHandle" ∧ yX6_count.cls ≠ "java/lang/invoke/VarHandle" ∧ (parseMethodDescriptor yX6_count.desc).map (fun d => d.parameters.length) = some 1 := by decide +kernel
set_option maxRecDepth 20000 in
theorem ks_L_fewest : yL_fewest.cls ≠ "java/lang/invoke/MethodHandle" ∧ yL_fewest.cls ≠ "java/lang/invoke/VarHandle" ∧ (parseMethodDescriptor yL_fewest.desc).map (fun d => d.parameters.length) = some 4 := by decide +kernel
set_option maxRecDepth 20000 in
theorem kd_X6_fewest : yX6_fewest.cls = RX6 ∧ yX6_fewest.cls ≠ "java/lang/invoke/MethodHandle" ∧ yX6_fewest.cls ≠ "java/lang/invoke/VarHandle" ∧ (parseMethodDescriptor yX6_fewest.desc).map (fun d => d.parameters.length) = some 2 := by decide +kernel
set_option maxRecDepth 20000 in
theorem ks_L_ifBorrowed : yL_ifBorrowed.cls ≠ "java/lang/invoke/MethodHandle" ∧ yL_ifBorrowed.cls ≠ "java/lang/invoke/VarHandle" ∧ (parseMethodDescriptor yL_ifBorrowed.desc).map (fun d => d.parameters.length) = some 4 := by decide +kernel
set_option maxRecDepth 20000 in
theorem kd_X6_ifBorrowed : yX6_ifBorrowed.cls = RX6 ∧ yX6_ifBorrowed.cls ≠ "java/lang/invoke/MethodHandle" ∧ yX6_ifBorrowed.cls ≠ "java/lang/invoke/VarHandle" ∧ (parseMethodDescriptor yX6_ifBorrowed.desc).map (fun d => d.parameters.length) = some 2 := by decide +kernel
set_option maxRecDepth 20000 in
theorem ks_L_leastChange : yL_leastChange.cls ≠ "java/lang/invoke/MethodHandle" ∧ yL_leastChange.cls ≠ "java/lang/invoke/VarHandle" ∧ (parseMethodDescriptor yL_leastChange.desc).map (fun d => d.parameters.length) = some 5 := by decide +kernel
set_option maxRecDepth 20000 in
theorem kd_X6_leastChange : yX6_leastChange.cls = RX6 ∧ yX6_leastChange.cls ≠ "java/lang/invoke/MethodHandle" ∧ yX6_leastChange.cls ≠ "java/lang/invoke/VarHandle" ∧ (parseMethodDescriptor yX6_leastChange.desc).map (fun d => d.parameters.length) = some 3 := by decide +kernel
set_option maxRecDepth 20000 in
theorem kd_X6_bestPainter : yX6_bestPainter.cls = RX6 ∧ yX6_bestPainter.cls ≠ "java/lang/invoke/MethodHandle" ∧ yX6_bestPainter.cls ≠ "java/lang/invoke/VarHandle" ∧ (parseMethodDescriptor yX6_bestPainter.desc).map (fun d => d.parameters.length) = some 0 := by decide +kernel
set_option maxRecDepth 20000 in
theorem kd_X5_digest : yX5_digest.cls = RX5 ∧ yX5_digest.cls ≠ "java/lang/invoke/MethodHandle" ∧ yX5_digest.cls ≠ "java/lang/invoke/VarHandle" ∧ (parseMethodDescriptor yX5_digest.desc).map (fun d => d.parameters.length) = some 0 := by decide +kernel
set_option maxRecDepth 20000 in
theorem kd_X6_digest : yX6_digest.cls = RX6 ∧ yX6_digest.cls ≠ "java/lang/invoke/MethodHandle" ∧ yX6_digest.cls ≠ "java/lang/invoke/VarHandle" ∧ (parseMethodDescriptor yX6_digest.desc).map (fun d => d.parameters.length) = some 0 := by decide +kernel
set_option maxHeartbeats 4000000 in
set_option maxRecDepth 100000 in
theorem lc_0 {G : GG} {p : Program} {l : Launch} {e : Env} {s : State} {m : MethodId} {below : List Frame} {meth : Method} {c : Code} {A : Nat → Prop} {Q : State → Prop} {k9 n9 : Nat} {M : MM} {b L : Nat} {xs : Nat → Int32} (C : Cx G p s m #[.ref b] meth c A cL_law 9 RL wsL_law) (hXw : XW A s) (hX9 : va_X b L xs s s.heap) (hbl : b < s.heap.size) (hbA : ¬ A b) (hl : l.stackTraces = false) (hL : L ≤ 2048) (hk9 : k9 + 1 ≤ room_1.cells ∧ n9 + 6 ≤ room_1.slots) {i : Nat} (hi : i + 4 ≤ L) {S : SS} (hO : OkS S) (hX : Xc M S) (hM : Xm M S) (kn : ∀ (S2 : SS) (M2 : MM), OkS S2 → Xc M2 S2 → Xm M2 S2 → J G p l e room_1 s m #[.ref b] below meth c A 9 Q (k9 + 1) (n9 + 6) 1678 [(0, .ref b), (1, .ref (G.2.2 72)), (2, .ref (G.2.2 84)), (3, .ref (G.2.2 90)), (4, .int (nI (i)))] [] M2) : J G p l e room_1 s m #[.ref b] below meth c A 9 Q k9 n9 160 [(0, .ref b), (1, .ref (G.2.2 72)), (2, .ref (G.2.2 84)), (3, .ref (G.2.2 90)), (4, .int (nI (i)))] [] M := by
  obtain ⟨t, r, S2, ht, hO2, hcl, hmo⟩ := bo_mix (G := G) hl hO (a := xs (i + 1)) (b := xs (i + 2)) (d := xs (i + 3))
  refine j_aload_n C dL_law_160 rfl ?_
  refine j_aload_n C dL_law_161 rfl ?_
  refine j_iload C dL_law_162 rfl ?_
  refine j_iconst C dL_law_164 (v := nI 1) (by decide) ?_
  refine j_iaddN C dL_law_165 ?_
  refine j_sld C hX9 hbl hbA dL_law_166 (by omega) (by omega) ?_
  refine j_aload_n C dL_law_167 rfl ?_
  refine j_iload C dL_law_168 rfl ?_
  refine j_iconst C dL_law_170 (v := nI 2) (by decide) ?_
  refine j_iaddN C dL_law_171 ?_
  refine j_sld C hX9 hbl hbA dL_law_172 (by omega) (by omega) ?_
  refine j_aload_n C dL_law_173 rfl ?_
  refine j_iload C dL_law_174 rfl ?_
  refine j_iconst C dL_law_176 (v := nI 3) (by decide) ?_
  refine j_iaddN C dL_law_177 ?_
  refine j_sld C hX9 hbl hbA dL_law_178 (by omega) (by omega) ?_
  refine j_aload_n C dL_law_179 rfl ?_
  refine j_callSW C hXw (hcl M hX) dL_law_180 gL_law_L_mix rfl ks_L_mix rfl rfl (Nat.le_of_ble_eq_true rfl) ⟨Nat.le_of_ble_eq_true rfl, Nat.le_of_ble_eq_true rfl⟩ hk9 (k_IQ fun M1 hq => ?_)
  obtain ⟨hX1, hz1, hor⟩ := hq
  have hM1 := hM.oz hz1
  refine j_istore C dL_law_183 (by decide) ?_
  refine j_aload_n C dL_law_185 rfl ?_
  refine j_aload_n C dL_law_186 rfl ?_
  refine j_iload C dL_law_187 rfl ?_
  refine j_iconst C dL_law_189 (v := nI 1) (by decide) ?_
  refine j_iaddN C dL_law_190 ?_
  refine j_sld C hX9 hbl hbA dL_law_191 (by omega) (by omega) ?_
  refine j_aload_n C dL_law_192 rfl ?_
  refine j_iload C dL_law_193 rfl ?_
  refine j_iconst C dL_law_195 (v := nI 2) (by decide) ?_
  refine j_iaddN C dL_law_196 ?_
  refine j_sld C hX9 hbl hbA dL_law_197 (by omega) (by omega) ?_
  refine j_aload_n C dL_law_198 rfl ?_
  refine j_iload C dL_law_199 rfl ?_
  refine j_iconst C dL_law_201 (v := nI 3) (by decide) ?_
  refine j_iaddN C dL_law_202 ?_
  refine j_sld C hX9 hbl hbA dL_law_203 (by omega) (by omega) ?_
  refine j_callV C (hmo M1 hM1) dL_law_204 rfl (by decide) (T := TX6) rfl gL_law_X6_mix rfl kd_X6_mix rfl rfl (Nat.le_of_ble_eq_true rfl) ⟨Nat.le_of_ble_eq_true rfl, Nat.le_of_ble_eq_true rfl⟩ hk9 (k_MQ fun bb M2 hq => ?_)
  obtain ⟨hbr, hM2, ho2, ht5⟩ := hq
  have hX2 := hX1.offM ho2
  refine j_istore C dL_law_207 (by decide) ?_
  refine j_aload_n C dL_law_209 rfl ?_
  refine j_callV C cm_thrown dL_law_210 rfl (by decide) (T := TX6) rfl gL_law_X6_thrown rfl kd_X6_thrown rfl rfl (Nat.le_of_ble_eq_true rfl) ⟨Nat.le_of_ble_eq_true rfl, Nat.le_of_ble_eq_true rfl⟩ hk9 (k_I ?_)
  refine j_top C (nI t) ht5 ?_
  refine j_iload C dL_law_213 rfl ?_
  refine j_icmp_eqN C dL_law_215 (tgt := 220) (by decide) (by omega) (by omega) (fun cq215 => ?_) (fun cq215 => absurd cq215 (not_not_intro rfl))
  refine j_iload C dL_law_220 rfl ?_
  refine j_if_neN C dL_law_222 (tgt := 237) (by decide) (by omega) (fun cq222 => ?_) (fun cq222 => ?_)
  · refine j_goto C dL_law_237 (tgt := 1678) (by decide) ?_
    exact j_pick [0, 1, 2, 3, 4] (kn S2 M2 hO2 hX2 hM2)
  · refine j_aload_n C dL_law_225 rfl ?_
    refine j_iconst C dL_law_226 (v := nI 0) (by decide) ?_
    refine j_lald90 C dL_law_227 (by decide) ?_
    refine j_iload C dL_law_228 rfl ?_
    refine j_i2l C dL_law_230 ?_
    refine j_lcmp C dL_law_231 ?_
    refine j_top C (nI 0) (by rw [Off_out ho2, hor cq222, hbr cq222]; exact lg_self _) ?_
    refine j_if_eqN C dL_law_232 (tgt := 237) (by decide) (by omega) (fun cq232 => ?_) (fun cq232 => absurd cq232 (not_not_intro rfl))
    refine j_goto C dL_law_237 (tgt := 1678) (by decide) ?_
    exact j_pick [0, 1, 2, 3, 4] (kn S2 M2 hO2 hX2 hM2)

set_option maxHeartbeats 4000000 in
set_option maxRecDepth 100000 in
theorem lc_1 {G : GG} {p : Program} {l : Launch} {e : Env} {s : State} {m : MethodId} {below : List Frame} {meth : Method} {c : Code} {A : Nat → Prop} {Q : State → Prop} {k9 n9 : Nat} {M : MM} {b L : Nat} {xs : Nat → Int32} (C : Cx G p s m #[.ref b] meth c A cL_law 9 RL wsL_law) (hXw : XW A s) (hX9 : va_X b L xs s s.heap) (hbl : b < s.heap.size) (hbA : ¬ A b) (hl : l.stackTraces = false) (hL : L ≤ 2048) (hk9 : k9 + 1 ≤ room_1.cells ∧ n9 + 6 ≤ room_1.slots) {i : Nat} (hi : i + 4 ≤ L) {S : SS} (hO : OkS S) (hX : Xc M S) (hM : Xm M S) (kn : ∀ (S2 : SS) (M2 : MM), OkS S2 → Xc M2 S2 → Xm M2 S2 → J G p l e room_1 s m #[.ref b] below meth c A 9 Q (k9 + 1) (n9 + 6) 1678 [(0, .ref b), (1, .ref (G.2.2 72)), (2, .ref (G.2.2 84)), (3, .ref (G.2.2 90)), (4, .int (nI (i)))] [] M2) : J G p l e room_1 s m #[.ref b] below meth c A 9 Q k9 n9 240 [(0, .ref b), (1, .ref (G.2.2 72)), (2, .ref (G.2.2 84)), (3, .ref (G.2.2 90)), (4, .int (nI (i)))] [] M := by
  obtain ⟨t, r, S2, ht, hO2, hcl, hmo⟩ := bo_painter (G := G) hl hO (a := xs (i + 1)) (b := xs (i + 2)) (d := xs (i + 3))
  refine j_aload_n C dL_law_240 rfl ?_
  refine j_aload_n C dL_law_241 rfl ?_
  refine j_iload C dL_law_242 rfl ?_
  refine j_iconst C dL_law_244 (v := nI 1) (by decide) ?_
  refine j_iaddN C dL_law_245 ?_
  refine j_sld C hX9 hbl hbA dL_law_246 (by omega) (by omega) ?_
  refine j_aload_n C dL_law_247 rfl ?_
  refine j_iload C dL_law_248 rfl ?_
  refine j_iconst C dL_law_250 (v := nI 2) (by decide) ?_
  refine j_iaddN C dL_law_251 ?_
  refine j_sld C hX9 hbl hbA dL_law_252 (by omega) (by omega) ?_
  refine j_aload_n C dL_law_253 rfl ?_
  refine j_iload C dL_law_254 rfl ?_
  refine j_iconst C dL_law_256 (v := nI 3) (by decide) ?_
  refine j_iaddN C dL_law_257 ?_
  refine j_sld C hX9 hbl hbA dL_law_258 (by omega) (by omega) ?_
  refine j_aload_n C dL_law_259 rfl ?_
  refine j_callSW C hXw (hcl M hX) dL_law_260 gL_law_L_painter rfl ks_L_painter rfl rfl (Nat.le_of_ble_eq_true rfl) ⟨Nat.le_of_ble_eq_true rfl, Nat.le_of_ble_eq_true rfl⟩ hk9 (k_IQ fun M1 hq => ?_)
  obtain ⟨hX1, hz1, hor⟩ := hq
  have hM1 := hM.oz hz1
  refine j_istore C dL_law_263 (by decide) ?_
  refine j_aload_n C dL_law_265 rfl ?_
  refine j_aload_n C dL_law_266 rfl ?_
  refine j_iload C dL_law_267 rfl ?_
  refine j_iconst C dL_law_269 (v := nI 1) (by decide) ?_
  refine j_iaddN C dL_law_270 ?_
  refine j_sld C hX9 hbl hbA dL_law_271 (by omega) (by omega) ?_
  refine j_aload_n C dL_law_272 rfl ?_
  refine j_iload C dL_law_273 rfl ?_
  refine j_iconst C dL_law_275 (v := nI 2) (by decide) ?_
  refine j_iaddN C dL_law_276 ?_
  refine j_sld C hX9 hbl hbA dL_law_277 (by omega) (by omega) ?_
  refine j_aload_n C dL_law_278 rfl ?_
  refine j_iload C dL_law_279 rfl ?_
  refine j_iconst C dL_law_281 (v := nI 3) (by decide) ?_
  refine j_iaddN C dL_law_282 ?_
  refine j_sld C hX9 hbl hbA dL_law_283 (by omega) (by omega) ?_
  refine j_callV C (hmo M1 hM1) dL_law_284 rfl (by decide) (T := TX6) rfl gL_law_X6_painter rfl kd_X6_painter rfl rfl (Nat.le_of_ble_eq_true rfl) ⟨Nat.le_of_ble_eq_true rfl, Nat.le_of_ble_eq_true rfl⟩ hk9 (k_MQ fun bb M2 hq => ?_)
  obtain ⟨hbr, hM2, ho2, ht5⟩ := hq
  have hX2 := hX1.offM ho2
  refine j_istore C dL_law_287 (by decide) ?_
  refine j_aload_n C dL_law_289 rfl ?_
  refine j_callV C cm_thrown dL_law_290 rfl (by decide) (T := TX6) rfl gL_law_X6_thrown rfl kd_X6_thrown rfl rfl (Nat.le_of_ble_eq_true rfl) ⟨Nat.le_of_ble_eq_true rfl, Nat.le_of_ble_eq_true rfl⟩ hk9 (k_I ?_)
  refine j_top C (nI t) ht5 ?_
  refine j_iload C dL_law_293 rfl ?_
  refine j_icmp_eqN C dL_law_295 (tgt := 300) (by decide) (by omega) (by omega) (fun cq295 => ?_) (fun cq295 => absurd cq295 (not_not_intro rfl))
  refine j_iload C dL_law_300 rfl ?_
  refine j_if_neN C dL_law_302 (tgt := 317) (by decide) (by omega) (fun cq302 => ?_) (fun cq302 => ?_)
  · refine j_goto C dL_law_317 (tgt := 1678) (by decide) ?_
    exact j_pick [0, 1, 2, 3, 4] (kn S2 M2 hO2 hX2 hM2)
  · refine j_aload_n C dL_law_305 rfl ?_
    refine j_iconst C dL_law_306 (v := nI 0) (by decide) ?_
    refine j_lald90 C dL_law_307 (by decide) ?_
    refine j_iload C dL_law_308 rfl ?_
    refine j_i2l C dL_law_310 ?_
    refine j_lcmp C dL_law_311 ?_
    refine j_top C (nI 0) (by rw [Off_out ho2, hor cq302, hbr cq302]; exact lg_self _) ?_
    refine j_if_eqN C dL_law_312 (tgt := 317) (by decide) (by omega) (fun cq312 => ?_) (fun cq312 => absurd cq312 (not_not_intro rfl))
    refine j_goto C dL_law_317 (tgt := 1678) (by decide) ?_
    exact j_pick [0, 1, 2, 3, 4] (kn S2 M2 hO2 hX2 hM2)

set_option maxHeartbeats 4000000 in
set_option maxRecDepth 100000 in
theorem lc_2 {G : GG} {p : Program} {l : Launch} {e : Env} {s : State} {m : MethodId} {below : List Frame} {meth : Method} {c : Code} {A : Nat → Prop} {Q : State → Prop} {k9 n9 : Nat} {M : MM} {b L : Nat} {xs : Nat → Int32} (C : Cx G p s m #[.ref b] meth c A cL_law 9 RL wsL_law) (hXw : XW A s) (hX9 : va_X b L xs s s.heap) (hbl : b < s.heap.size) (hbA : ¬ A b) (hl : l.stackTraces = false) (hL : L ≤ 2048) (hk9 : k9 + 1 ≤ room_1.cells ∧ n9 + 6 ≤ room_1.slots) {i : Nat} (hi : i + 4 ≤ L) {S : SS} (hO : OkS S) (hX : Xc M S) (hM : Xm M S) (kn : ∀ (S2 : SS) (M2 : MM), OkS S2 → Xc M2 S2 → Xm M2 S2 → J G p l e room_1 s m #[.ref b] below meth c A 9 Q (k9 + 1) (n9 + 6) 1678 [(0, .ref b), (1, .ref (G.2.2 72)), (2, .ref (G.2.2 84)), (3, .ref (G.2.2 90)), (4, .int (nI (i)))] [] M2) : J G p l e room_1 s m #[.ref b] below meth c A 9 Q k9 n9 320 [(0, .ref b), (1, .ref (G.2.2 72)), (2, .ref (G.2.2 84)), (3, .ref (G.2.2 90)), (4, .int (nI (i)))] [] M := by
  obtain ⟨t, r, S2, ht, hO2, hcl, hmo⟩ := bo_borrow (G := G) hl hO (a := xs (i + 1)) (b := xs (i + 2))
  refine j_aload_n C dL_law_320 rfl ?_
  refine j_aload_n C dL_law_321 rfl ?_
  refine j_iload C dL_law_322 rfl ?_
  refine j_iconst C dL_law_324 (v := nI 1) (by decide) ?_
  refine j_iaddN C dL_law_325 ?_
  refine j_sld C hX9 hbl hbA dL_law_326 (by omega) (by omega) ?_
  refine j_aload_n C dL_law_327 rfl ?_
  refine j_iload C dL_law_328 rfl ?_
  refine j_iconst C dL_law_330 (v := nI 2) (by decide) ?_
  refine j_iaddN C dL_law_331 ?_
  refine j_sld C hX9 hbl hbA dL_law_332 (by omega) (by omega) ?_
  refine j_aload_n C dL_law_333 rfl ?_
  refine j_callSW C hXw (hcl M hX) dL_law_334 gL_law_L_borrow rfl ks_L_borrow rfl rfl (Nat.le_of_ble_eq_true rfl) ⟨Nat.le_of_ble_eq_true rfl, Nat.le_of_ble_eq_true rfl⟩ hk9 (k_IQ fun M1 hq => ?_)
  obtain ⟨hX1, hz1, hor⟩ := hq
  have hM1 := hM.oz hz1
  refine j_istore C dL_law_337 (by decide) ?_
  refine j_aload_n C dL_law_339 rfl ?_
  refine j_aload_n C dL_law_340 rfl ?_
  refine j_iload C dL_law_341 rfl ?_
  refine j_iconst C dL_law_343 (v := nI 1) (by decide) ?_
  refine j_iaddN C dL_law_344 ?_
  refine j_sld C hX9 hbl hbA dL_law_345 (by omega) (by omega) ?_
  refine j_aload_n C dL_law_346 rfl ?_
  refine j_iload C dL_law_347 rfl ?_
  refine j_iconst C dL_law_349 (v := nI 2) (by decide) ?_
  refine j_iaddN C dL_law_350 ?_
  refine j_sld C hX9 hbl hbA dL_law_351 (by omega) (by omega) ?_
  refine j_callV C (hmo M1 hM1) dL_law_352 rfl (by decide) (T := TX6) rfl gL_law_X6_borrow rfl kd_X6_borrow rfl rfl (Nat.le_of_ble_eq_true rfl) ⟨Nat.le_of_ble_eq_true rfl, Nat.le_of_ble_eq_true rfl⟩ hk9 (k_MQ fun bb M2 hq => ?_)
  obtain ⟨hbr, hM2, ho2, ht5⟩ := hq
  have hX2 := hX1.offM ho2
  refine j_istore C dL_law_355 (by decide) ?_
  refine j_aload_n C dL_law_357 rfl ?_
  refine j_callV C cm_thrown dL_law_358 rfl (by decide) (T := TX6) rfl gL_law_X6_thrown rfl kd_X6_thrown rfl rfl (Nat.le_of_ble_eq_true rfl) ⟨Nat.le_of_ble_eq_true rfl, Nat.le_of_ble_eq_true rfl⟩ hk9 (k_I ?_)
  refine j_top C (nI t) ht5 ?_
  refine j_iload C dL_law_361 rfl ?_
  refine j_icmp_eqN C dL_law_363 (tgt := 368) (by decide) (by omega) (by omega) (fun cq363 => ?_) (fun cq363 => absurd cq363 (not_not_intro rfl))
  refine j_iload C dL_law_368 rfl ?_
  refine j_if_neN C dL_law_370 (tgt := 385) (by decide) (by omega) (fun cq370 => ?_) (fun cq370 => ?_)
  · refine j_goto C dL_law_385 (tgt := 1678) (by decide) ?_
    exact j_pick [0, 1, 2, 3, 4] (kn S2 M2 hO2 hX2 hM2)
  · refine j_aload_n C dL_law_373 rfl ?_
    refine j_iconst C dL_law_374 (v := nI 0) (by decide) ?_
    refine j_lald90 C dL_law_375 (by decide) ?_
    refine j_iload C dL_law_376 rfl ?_
    refine j_i2l C dL_law_378 ?_
    refine j_lcmp C dL_law_379 ?_
    refine j_top C (nI 0) (by rw [Off_out ho2, hor cq370, hbr cq370]; exact lg_self _) ?_
    refine j_if_eqN C dL_law_380 (tgt := 385) (by decide) (by omega) (fun cq380 => ?_) (fun cq380 => absurd cq380 (not_not_intro rfl))
    refine j_goto C dL_law_385 (tgt := 1678) (by decide) ?_
    exact j_pick [0, 1, 2, 3, 4] (kn S2 M2 hO2 hX2 hM2)

set_option maxHeartbeats 4000000 in
set_option maxRecDepth 100000 in
theorem lc_3 {G : GG} {p : Program} {l : Launch} {e : Env} {s : State} {m : MethodId} {below : List Frame} {meth : Method} {c : Code} {A : Nat → Prop} {Q : State → Prop} {k9 n9 : Nat} {M : MM} {b L : Nat} {xs : Nat → Int32} (C : Cx G p s m #[.ref b] meth c A cL_law 9 RL wsL_law) (hXw : XW A s) (hX9 : va_X b L xs s s.heap) (hbl : b < s.heap.size) (hbA : ¬ A b) (hl : l.stackTraces = false) (hL : L ≤ 2048) (hk9 : k9 + 1 ≤ room_1.cells ∧ n9 + 6 ≤ room_1.slots) {i : Nat} (hi : i + 4 ≤ L) {S : SS} (hO : OkS S) (hX : Xc M S) (hM : Xm M S) (kn : ∀ (S2 : SS) (M2 : MM), OkS S2 → Xc M2 S2 → Xm M2 S2 → J G p l e room_1 s m #[.ref b] below meth c A 9 Q (k9 + 1) (n9 + 6) 1678 [(0, .ref b), (1, .ref (G.2.2 72)), (2, .ref (G.2.2 84)), (3, .ref (G.2.2 90)), (4, .int (nI (i)))] [] M2) : J G p l e room_1 s m #[.ref b] below meth c A 9 Q k9 n9 388 [(0, .ref b), (1, .ref (G.2.2 72)), (2, .ref (G.2.2 84)), (3, .ref (G.2.2 90)), (4, .int (nI (i)))] [] M := by
  obtain ⟨t, r, S2, ht, hO2, hcl, hmo⟩ := bo_label (G := G) hl hO (a := xs (i + 1)) (b := xs (i + 2))
  refine j_aload_n C dL_law_388 rfl ?_
  refine j_aload_n C dL_law_389 rfl ?_
  refine j_iload C dL_law_390 rfl ?_
  refine j_iconst C dL_law_392 (v := nI 1) (by decide) ?_
  refine j_iaddN C dL_law_393 ?_
  refine j_sld C hX9 hbl hbA dL_law_394 (by omega) (by omega) ?_
  refine j_aload_n C dL_law_395 rfl ?_
  refine j_iload C dL_law_396 rfl ?_
  refine j_iconst C dL_law_398 (v := nI 2) (by decide) ?_
  refine j_iaddN C dL_law_399 ?_
  refine j_sld C hX9 hbl hbA dL_law_400 (by omega) (by omega) ?_
  refine j_aload_n C dL_law_401 rfl ?_
  refine j_callSW C hXw (hcl M hX) dL_law_402 gL_law_L_label rfl ks_L_label rfl rfl (Nat.le_of_ble_eq_true rfl) ⟨Nat.le_of_ble_eq_true rfl, Nat.le_of_ble_eq_true rfl⟩ hk9 (k_IQ fun M1 hq => ?_)
  obtain ⟨hX1, hz1, hor⟩ := hq
  have hM1 := hM.oz hz1
  refine j_istore C dL_law_405 (by decide) ?_
  refine j_aload_n C dL_law_407 rfl ?_
  refine j_aload_n C dL_law_408 rfl ?_
  refine j_iload C dL_law_409 rfl ?_
  refine j_iconst C dL_law_411 (v := nI 1) (by decide) ?_
  refine j_iaddN C dL_law_412 ?_
  refine j_sld C hX9 hbl hbA dL_law_413 (by omega) (by omega) ?_
  refine j_aload_n C dL_law_414 rfl ?_
  refine j_iload C dL_law_415 rfl ?_
  refine j_iconst C dL_law_417 (v := nI 2) (by decide) ?_
  refine j_iaddN C dL_law_418 ?_
  refine j_sld C hX9 hbl hbA dL_law_419 (by omega) (by omega) ?_
  refine j_callV C (hmo M1 hM1) dL_law_420 rfl (by decide) (T := TX6) rfl gL_law_X6_label rfl kd_X6_label rfl rfl (Nat.le_of_ble_eq_true rfl) ⟨Nat.le_of_ble_eq_true rfl, Nat.le_of_ble_eq_true rfl⟩ hk9 (k_MQ fun bb M2 hq => ?_)
  obtain ⟨hbr, hM2, ho2, ht5⟩ := hq
  have hX2 := hX1.offM ho2
  refine j_istore C dL_law_423 (by decide) ?_
  refine j_aload_n C dL_law_425 rfl ?_
  refine j_callV C cm_thrown dL_law_426 rfl (by decide) (T := TX6) rfl gL_law_X6_thrown rfl kd_X6_thrown rfl rfl (Nat.le_of_ble_eq_true rfl) ⟨Nat.le_of_ble_eq_true rfl, Nat.le_of_ble_eq_true rfl⟩ hk9 (k_I ?_)
  refine j_top C (nI t) ht5 ?_
  refine j_iload C dL_law_429 rfl ?_
  refine j_icmp_eqN C dL_law_431 (tgt := 436) (by decide) (by omega) (by omega) (fun cq431 => ?_) (fun cq431 => absurd cq431 (not_not_intro rfl))
  refine j_iload C dL_law_436 rfl ?_
  refine j_if_neN C dL_law_438 (tgt := 453) (by decide) (by omega) (fun cq438 => ?_) (fun cq438 => ?_)
  · refine j_goto C dL_law_453 (tgt := 1678) (by decide) ?_
    exact j_pick [0, 1, 2, 3, 4] (kn S2 M2 hO2 hX2 hM2)
  · refine j_aload_n C dL_law_441 rfl ?_
    refine j_iconst C dL_law_442 (v := nI 0) (by decide) ?_
    refine j_lald90 C dL_law_443 (by decide) ?_
    refine j_iload C dL_law_444 rfl ?_
    refine j_i2l C dL_law_446 ?_
    refine j_lcmp C dL_law_447 ?_
    refine j_top C (nI 0) (by rw [Off_out ho2, hor cq438, hbr cq438]; exact lg_self _) ?_
    refine j_if_eqN C dL_law_448 (tgt := 453) (by decide) (by omega) (fun cq448 => ?_) (fun cq448 => absurd cq448 (not_not_intro rfl))
    refine j_goto C dL_law_453 (tgt := 1678) (by decide) ?_
    exact j_pick [0, 1, 2, 3, 4] (kn S2 M2 hO2 hX2 hM2)

set_option maxHeartbeats 4000000 in
set_option maxRecDepth 100000 in
theorem lc_4 {G : GG} {p : Program} {l : Launch} {e : Env} {s : State} {m : MethodId} {below : List Frame} {meth : Method} {c : Code} {A : Nat → Prop} {Q : State → Prop} {k9 n9 : Nat} {M : MM} {b L : Nat} {xs : Nat → Int32} (C : Cx G p s m #[.ref b] meth c A cL_law 9 RL wsL_law) (hXw : XW A s) (hX9 : va_X b L xs s s.heap) (hbl : b < s.heap.size) (hbA : ¬ A b) (hl : l.stackTraces = false) (hL : L ≤ 2048) (hk9 : k9 + 1 ≤ room_1.cells ∧ n9 + 6 ≤ room_1.slots) {i : Nat} (hi : i + 4 ≤ L) {S : SS} (hO : OkS S) (hX : Xc M S) (hM : Xm M S) (kn : ∀ (S2 : SS) (M2 : MM), OkS S2 → Xc M2 S2 → Xm M2 S2 → J G p l e room_1 s m #[.ref b] below meth c A 9 Q (k9 + 1) (n9 + 6) 1678 [(0, .ref b), (1, .ref (G.2.2 72)), (2, .ref (G.2.2 84)), (3, .ref (G.2.2 90)), (4, .int (nI (i)))] [] M2) : J G p l e room_1 s m #[.ref b] below meth c A 9 Q k9 n9 456 [(0, .ref b), (1, .ref (G.2.2 72)), (2, .ref (G.2.2 84)), (3, .ref (G.2.2 90)), (4, .int (nI (i)))] [] M := by
  obtain ⟨t, r, S2, ht, hO2, hcl, hmo⟩ := bo_labelAll (G := G) hl hO (a := xs (i + 1))
  refine j_aload_n C dL_law_456 rfl ?_
  refine j_aload_n C dL_law_457 rfl ?_
  refine j_iload C dL_law_458 rfl ?_
  refine j_iconst C dL_law_460 (v := nI 1) (by decide) ?_
  refine j_iaddN C dL_law_461 ?_
  refine j_sld C hX9 hbl hbA dL_law_462 (by omega) (by omega) ?_
  refine j_aload_n C dL_law_463 rfl ?_
  refine j_callSW C hXw (hcl M hX) dL_law_464 gL_law_L_labelAll rfl ks_L_labelAll rfl rfl (Nat.le_of_ble_eq_true rfl) ⟨Nat.le_of_ble_eq_true rfl, Nat.le_of_ble_eq_true rfl⟩ hk9 (k_IQ fun M1 hq => ?_)
  obtain ⟨hX1, hz1, hor⟩ := hq
  have hM1 := hM.oz hz1
  refine j_istore C dL_law_467 (by decide) ?_
  refine j_aload_n C dL_law_469 rfl ?_
  refine j_aload_n C dL_law_470 rfl ?_
  refine j_iload C dL_law_471 rfl ?_
  refine j_iconst C dL_law_473 (v := nI 1) (by decide) ?_
  refine j_iaddN C dL_law_474 ?_
  refine j_sld C hX9 hbl hbA dL_law_475 (by omega) (by omega) ?_
  refine j_callV C (hmo M1 hM1) dL_law_476 rfl (by decide) (T := TX6) rfl gL_law_X6_labelAll rfl kd_X6_labelAll rfl rfl (Nat.le_of_ble_eq_true rfl) ⟨Nat.le_of_ble_eq_true rfl, Nat.le_of_ble_eq_true rfl⟩ hk9 (k_MQ fun bb M2 hq => ?_)
  obtain ⟨hbr, hM2, ho2, ht5⟩ := hq
  have hX2 := hX1.offM ho2
  refine j_istore C dL_law_479 (by decide) ?_
  refine j_aload_n C dL_law_481 rfl ?_
  refine j_callV C cm_thrown dL_law_482 rfl (by decide) (T := TX6) rfl gL_law_X6_thrown rfl kd_X6_thrown rfl rfl (Nat.le_of_ble_eq_true rfl) ⟨Nat.le_of_ble_eq_true rfl, Nat.le_of_ble_eq_true rfl⟩ hk9 (k_I ?_)
  refine j_top C (nI t) ht5 ?_
  refine j_iload C dL_law_485 rfl ?_
  refine j_icmp_eqN C dL_law_487 (tgt := 492) (by decide) (by omega) (by omega) (fun cq487 => ?_) (fun cq487 => absurd cq487 (not_not_intro rfl))
  refine j_iload C dL_law_492 rfl ?_
  refine j_if_neN C dL_law_494 (tgt := 509) (by decide) (by omega) (fun cq494 => ?_) (fun cq494 => ?_)
  · refine j_goto C dL_law_509 (tgt := 1678) (by decide) ?_
    exact j_pick [0, 1, 2, 3, 4] (kn S2 M2 hO2 hX2 hM2)
  · refine j_aload_n C dL_law_497 rfl ?_
    refine j_iconst C dL_law_498 (v := nI 0) (by decide) ?_
    refine j_lald90 C dL_law_499 (by decide) ?_
    refine j_iload C dL_law_500 rfl ?_
    refine j_i2l C dL_law_502 ?_
    refine j_lcmp C dL_law_503 ?_
    refine j_top C (nI 0) (by rw [Off_out ho2, hor cq494, hbr cq494]; exact lg_self _) ?_
    refine j_if_eqN C dL_law_504 (tgt := 509) (by decide) (by omega) (fun cq504 => ?_) (fun cq504 => absurd cq504 (not_not_intro rfl))
    refine j_goto C dL_law_509 (tgt := 1678) (by decide) ?_
    exact j_pick [0, 1, 2, 3, 4] (kn S2 M2 hO2 hX2 hM2)

set_option maxHeartbeats 4000000 in
set_option maxRecDepth 100000 in
theorem lc_5 {G : GG} {p : Program} {l : Launch} {e : Env} {s : State} {m : MethodId} {below : List Frame} {meth : Method} {c : Code} {A : Nat → Prop} {Q : State → Prop} {k9 n9 : Nat} {M : MM} {b L : Nat} {xs : Nat → Int32} (C : Cx G p s m #[.ref b] meth c A cL_law 9 RL wsL_law) (hXw : XW A s) (hX9 : va_X b L xs s s.heap) (hbl : b < s.heap.size) (hbA : ¬ A b) (hl : l.stackTraces = false) (hL : L ≤ 2048) (hk9 : k9 + 1 ≤ room_1.cells ∧ n9 + 6 ≤ room_1.slots) {i : Nat} (hi : i + 4 ≤ L) {S : SS} (hO : OkS S) (hX : Xc M S) (hM : Xm M S) (kn : ∀ (S2 : SS) (M2 : MM), OkS S2 → Xc M2 S2 → Xm M2 S2 → J G p l e room_1 s m #[.ref b] below meth c A 9 Q (k9 + 1) (n9 + 6) 1678 [(0, .ref b), (1, .ref (G.2.2 72)), (2, .ref (G.2.2 84)), (3, .ref (G.2.2 90)), (4, .int (nI (i)))] [] M2) : J G p l e room_1 s m #[.ref b] below meth c A 9 Q k9 n9 512 [(0, .ref b), (1, .ref (G.2.2 72)), (2, .ref (G.2.2 84)), (3, .ref (G.2.2 90)), (4, .int (nI (i)))] [] M := by
  obtain ⟨t, r, S2, ht, hO2, hcl, hmo⟩ := bo_hang (G := G) hl hO (a := xs (i + 1)) (b := xs (i + 2))
  refine j_aload_n C dL_law_512 rfl ?_
  refine j_aload_n C dL_law_513 rfl ?_
  refine j_iload C dL_law_514 rfl ?_
  refine j_iconst C dL_law_516 (v := nI 1) (by decide) ?_
  refine j_iaddN C dL_law_517 ?_
  refine j_sld C hX9 hbl hbA dL_law_518 (by omega) (by omega) ?_
  refine j_aload_n C dL_law_519 rfl ?_
  refine j_iload C dL_law_520 rfl ?_
  refine j_iconst C dL_law_522 (v := nI 2) (by decide) ?_
  refine j_iaddN C dL_law_523 ?_
  refine j_sld C hX9 hbl hbA dL_law_524 (by omega) (by omega) ?_
  refine j_aload_n C dL_law_525 rfl ?_
  refine j_callSW C hXw (hcl M hX) dL_law_526 gL_law_L_hang rfl ks_L_hang rfl rfl (Nat.le_of_ble_eq_true rfl) ⟨Nat.le_of_ble_eq_true rfl, Nat.le_of_ble_eq_true rfl⟩ hk9 (k_IQ fun M1 hq => ?_)
  obtain ⟨hX1, hz1, hor⟩ := hq
  have hM1 := hM.oz hz1
  refine j_istore C dL_law_529 (by decide) ?_
  refine j_aload_n C dL_law_531 rfl ?_
  refine j_aload_n C dL_law_532 rfl ?_
  refine j_iload C dL_law_533 rfl ?_
  refine j_iconst C dL_law_535 (v := nI 1) (by decide) ?_
  refine j_iaddN C dL_law_536 ?_
  refine j_sld C hX9 hbl hbA dL_law_537 (by omega) (by omega) ?_
  refine j_aload_n C dL_law_538 rfl ?_
  refine j_iload C dL_law_539 rfl ?_
  refine j_iconst C dL_law_541 (v := nI 2) (by decide) ?_
  refine j_iaddN C dL_law_542 ?_
  refine j_sld C hX9 hbl hbA dL_law_543 (by omega) (by omega) ?_
  refine j_callV C (hmo M1 hM1) dL_law_544 rfl (by decide) (T := TX6) rfl gL_law_X6_hang rfl kd_X6_hang rfl rfl (Nat.le_of_ble_eq_true rfl) ⟨Nat.le_of_ble_eq_true rfl, Nat.le_of_ble_eq_true rfl⟩ hk9 (k_MQ fun bb M2 hq => ?_)
  obtain ⟨hbr, hM2, ho2, ht5⟩ := hq
  have hX2 := hX1.offM ho2
  refine j_istore C dL_law_547 (by decide) ?_
  refine j_aload_n C dL_law_549 rfl ?_
  refine j_callV C cm_thrown dL_law_550 rfl (by decide) (T := TX6) rfl gL_law_X6_thrown rfl kd_X6_thrown rfl rfl (Nat.le_of_ble_eq_true rfl) ⟨Nat.le_of_ble_eq_true rfl, Nat.le_of_ble_eq_true rfl⟩ hk9 (k_I ?_)
  refine j_top C (nI t) ht5 ?_
  refine j_iload C dL_law_553 rfl ?_
  refine j_icmp_eqN C dL_law_555 (tgt := 560) (by decide) (by omega) (by omega) (fun cq555 => ?_) (fun cq555 => absurd cq555 (not_not_intro rfl))
  refine j_iload C dL_law_560 rfl ?_
  refine j_if_neN C dL_law_562 (tgt := 577) (by decide) (by omega) (fun cq562 => ?_) (fun cq562 => ?_)
  · refine j_goto C dL_law_577 (tgt := 1678) (by decide) ?_
    exact j_pick [0, 1, 2, 3, 4] (kn S2 M2 hO2 hX2 hM2)
  · refine j_aload_n C dL_law_565 rfl ?_
    refine j_iconst C dL_law_566 (v := nI 0) (by decide) ?_
    refine j_lald90 C dL_law_567 (by decide) ?_
    refine j_iload C dL_law_568 rfl ?_
    refine j_i2l C dL_law_570 ?_
    refine j_lcmp C dL_law_571 ?_
    refine j_top C (nI 0) (by rw [Off_out ho2, hor cq562, hbr cq562]; exact lg_self _) ?_
    refine j_if_eqN C dL_law_572 (tgt := 577) (by decide) (by omega) (fun cq572 => ?_) (fun cq572 => absurd cq572 (not_not_intro rfl))
    refine j_goto C dL_law_577 (tgt := 1678) (by decide) ?_
    exact j_pick [0, 1, 2, 3, 4] (kn S2 M2 hO2 hX2 hM2)

set_option maxHeartbeats 4000000 in
set_option maxRecDepth 100000 in
theorem lc_6 {G : GG} {p : Program} {l : Launch} {e : Env} {s : State} {m : MethodId} {below : List Frame} {meth : Method} {c : Code} {A : Nat → Prop} {Q : State → Prop} {k9 n9 : Nat} {M : MM} {b L : Nat} {xs : Nat → Int32} (C : Cx G p s m #[.ref b] meth c A cL_law 9 RL wsL_law) (hXw : XW A s) (hX9 : va_X b L xs s s.heap) (hbl : b < s.heap.size) (hbA : ¬ A b) (hl : l.stackTraces = false) (hL : L ≤ 2048) (hk9 : k9 + 1 ≤ room_1.cells ∧ n9 + 6 ≤ room_1.slots) {i : Nat} (hi : i + 4 ≤ L) {S : SS} (hO : OkS S) (hX : Xc M S) (hM : Xm M S) (kn : ∀ (S2 : SS) (M2 : MM), OkS S2 → Xc M2 S2 → Xm M2 S2 → J G p l e room_1 s m #[.ref b] below meth c A 9 Q (k9 + 1) (n9 + 6) 1678 [(0, .ref b), (1, .ref (G.2.2 72)), (2, .ref (G.2.2 84)), (3, .ref (G.2.2 90)), (4, .int (nI (i)))] [] M2) : J G p l e room_1 s m #[.ref b] below meth c A 9 Q k9 n9 580 [(0, .ref b), (1, .ref (G.2.2 72)), (2, .ref (G.2.2 84)), (3, .ref (G.2.2 90)), (4, .int (nI (i)))] [] M := by
  obtain ⟨t, r, S2, ht, hO2, hcl, hmo⟩ := bo_takeDown (G := G) hl hO (a := xs (i + 1))
  refine j_aload_n C dL_law_580 rfl ?_
  refine j_aload_n C dL_law_581 rfl ?_
  refine j_iload C dL_law_582 rfl ?_
  refine j_iconst C dL_law_584 (v := nI 1) (by decide) ?_
  refine j_iaddN C dL_law_585 ?_
  refine j_sld C hX9 hbl hbA dL_law_586 (by omega) (by omega) ?_
  refine j_aload_n C dL_law_587 rfl ?_
  refine j_callSW C hXw (hcl M hX) dL_law_588 gL_law_L_takeDown rfl ks_L_takeDown rfl rfl (Nat.le_of_ble_eq_true rfl) ⟨Nat.le_of_ble_eq_true rfl, Nat.le_of_ble_eq_true rfl⟩ hk9 (k_IQ fun M1 hq => ?_)
  obtain ⟨hX1, hz1, hor⟩ := hq
  have hM1 := hM.oz hz1
  refine j_istore C dL_law_591 (by decide) ?_
  refine j_aload_n C dL_law_593 rfl ?_
  refine j_aload_n C dL_law_594 rfl ?_
  refine j_iload C dL_law_595 rfl ?_
  refine j_iconst C dL_law_597 (v := nI 1) (by decide) ?_
  refine j_iaddN C dL_law_598 ?_
  refine j_sld C hX9 hbl hbA dL_law_599 (by omega) (by omega) ?_
  refine j_callV C (hmo M1 hM1) dL_law_600 rfl (by decide) (T := TX6) rfl gL_law_X6_takeDown rfl kd_X6_takeDown rfl rfl (Nat.le_of_ble_eq_true rfl) ⟨Nat.le_of_ble_eq_true rfl, Nat.le_of_ble_eq_true rfl⟩ hk9 (k_MQ fun bb M2 hq => ?_)
  obtain ⟨hbr, hM2, ho2, ht5⟩ := hq
  have hX2 := hX1.offM ho2
  refine j_istore C dL_law_603 (by decide) ?_
  refine j_aload_n C dL_law_605 rfl ?_
  refine j_callV C cm_thrown dL_law_606 rfl (by decide) (T := TX6) rfl gL_law_X6_thrown rfl kd_X6_thrown rfl rfl (Nat.le_of_ble_eq_true rfl) ⟨Nat.le_of_ble_eq_true rfl, Nat.le_of_ble_eq_true rfl⟩ hk9 (k_I ?_)
  refine j_top C (nI t) ht5 ?_
  refine j_iload C dL_law_609 rfl ?_
  refine j_icmp_eqN C dL_law_611 (tgt := 616) (by decide) (by omega) (by omega) (fun cq611 => ?_) (fun cq611 => absurd cq611 (not_not_intro rfl))
  refine j_iload C dL_law_616 rfl ?_
  refine j_if_neN C dL_law_618 (tgt := 633) (by decide) (by omega) (fun cq618 => ?_) (fun cq618 => ?_)
  · refine j_goto C dL_law_633 (tgt := 1678) (by decide) ?_
    exact j_pick [0, 1, 2, 3, 4] (kn S2 M2 hO2 hX2 hM2)
  · refine j_aload_n C dL_law_621 rfl ?_
    refine j_iconst C dL_law_622 (v := nI 0) (by decide) ?_
    refine j_lald90 C dL_law_623 (by decide) ?_
    refine j_iload C dL_law_624 rfl ?_
    refine j_i2l C dL_law_626 ?_
    refine j_lcmp C dL_law_627 ?_
    refine j_top C (nI 0) (by rw [Off_out ho2, hor cq618, hbr cq618]; exact lg_self _) ?_
    refine j_if_eqN C dL_law_628 (tgt := 633) (by decide) (by omega) (fun cq628 => ?_) (fun cq628 => absurd cq628 (not_not_intro rfl))
    refine j_goto C dL_law_633 (tgt := 1678) (by decide) ?_
    exact j_pick [0, 1, 2, 3, 4] (kn S2 M2 hO2 hX2 hM2)

set_option maxHeartbeats 4000000 in
set_option maxRecDepth 100000 in
theorem lc_7 {G : GG} {p : Program} {l : Launch} {e : Env} {s : State} {m : MethodId} {below : List Frame} {meth : Method} {c : Code} {A : Nat → Prop} {Q : State → Prop} {k9 n9 : Nat} {M : MM} {b L : Nat} {xs : Nat → Int32} (C : Cx G p s m #[.ref b] meth c A cL_law 9 RL wsL_law) (hXw : XW A s) (hX9 : va_X b L xs s s.heap) (hbl : b < s.heap.size) (hbA : ¬ A b) (hl : l.stackTraces = false) (hL : L ≤ 2048) (hk9 : k9 + 1 ≤ room_1.cells ∧ n9 + 6 ≤ room_1.slots) {i : Nat} (hi : i + 4 ≤ L) {S : SS} (hO : OkS S) (hX : Xc M S) (hM : Xm M S) (kn : ∀ (S2 : SS) (M2 : MM), OkS S2 → Xc M2 S2 → Xm M2 S2 → J G p l e room_1 s m #[.ref b] below meth c A 9 Q (k9 + 1) (n9 + 6) 1678 [(0, .ref b), (1, .ref (G.2.2 72)), (2, .ref (G.2.2 84)), (3, .ref (G.2.2 90)), (4, .int (nI (i)))] [] M2) : J G p l e room_1 s m #[.ref b] below meth c A 9 Q k9 n9 636 [(0, .ref b), (1, .ref (G.2.2 72)), (2, .ref (G.2.2 84)), (3, .ref (G.2.2 90)), (4, .int (nI (i)))] [] M := by
  obtain ⟨t, r, S2, ht, hO2, hcl, hmo⟩ := bo_correct (G := G) hl hO (a := xs (i + 1)) (b := xs (i + 2))
  refine j_aload_n C dL_law_636 rfl ?_
  refine j_aload_n C dL_law_637 rfl ?_
  refine j_iload C dL_law_638 rfl ?_
  refine j_iconst C dL_law_640 (v := nI 1) (by decide) ?_
  refine j_iaddN C dL_law_641 ?_
  refine j_sld C hX9 hbl hbA dL_law_642 (by omega) (by omega) ?_
  refine j_aload_n C dL_law_643 rfl ?_
  refine j_iload C dL_law_644 rfl ?_
  refine j_iconst C dL_law_646 (v := nI 2) (by decide) ?_
  refine j_iaddN C dL_law_647 ?_
  refine j_sld C hX9 hbl hbA dL_law_648 (by omega) (by omega) ?_
  refine j_aload_n C dL_law_649 rfl ?_
  refine j_callSW C hXw (hcl M hX) dL_law_650 gL_law_L_correct rfl ks_L_correct rfl rfl (Nat.le_of_ble_eq_true rfl) ⟨Nat.le_of_ble_eq_true rfl, Nat.le_of_ble_eq_true rfl⟩ hk9 (k_IQ fun M1 hq => ?_)
  obtain ⟨hX1, hz1, hor⟩ := hq
  have hM1 := hM.oz hz1
  refine j_istore C dL_law_653 (by decide) ?_
  refine j_aload_n C dL_law_655 rfl ?_
  refine j_aload_n C dL_law_656 rfl ?_
  refine j_iload C dL_law_657 rfl ?_
  refine j_iconst C dL_law_659 (v := nI 1) (by decide) ?_
  refine j_iaddN C dL_law_660 ?_
  refine j_sld C hX9 hbl hbA dL_law_661 (by omega) (by omega) ?_
  refine j_aload_n C dL_law_662 rfl ?_
  refine j_iload C dL_law_663 rfl ?_
  refine j_iconst C dL_law_665 (v := nI 2) (by decide) ?_
  refine j_iaddN C dL_law_666 ?_
  refine j_sld C hX9 hbl hbA dL_law_667 (by omega) (by omega) ?_
  refine j_callV C (hmo M1 hM1) dL_law_668 rfl (by decide) (T := TX6) rfl gL_law_X6_correct rfl kd_X6_correct rfl rfl (Nat.le_of_ble_eq_true rfl) ⟨Nat.le_of_ble_eq_true rfl, Nat.le_of_ble_eq_true rfl⟩ hk9 (k_MQ fun bb M2 hq => ?_)
  obtain ⟨hbr, hM2, ho2, ht5⟩ := hq
  have hX2 := hX1.offM ho2
  refine j_istore C dL_law_671 (by decide) ?_
  refine j_aload_n C dL_law_673 rfl ?_
  refine j_callV C cm_thrown dL_law_674 rfl (by decide) (T := TX6) rfl gL_law_X6_thrown rfl kd_X6_thrown rfl rfl (Nat.le_of_ble_eq_true rfl) ⟨Nat.le_of_ble_eq_true rfl, Nat.le_of_ble_eq_true rfl⟩ hk9 (k_I ?_)
  refine j_top C (nI t) ht5 ?_
  refine j_iload C dL_law_677 rfl ?_
  refine j_icmp_eqN C dL_law_679 (tgt := 684) (by decide) (by omega) (by omega) (fun cq679 => ?_) (fun cq679 => absurd cq679 (not_not_intro rfl))
  refine j_iload C dL_law_684 rfl ?_
  refine j_if_neN C dL_law_686 (tgt := 701) (by decide) (by omega) (fun cq686 => ?_) (fun cq686 => ?_)
  · refine j_goto C dL_law_701 (tgt := 1678) (by decide) ?_
    exact j_pick [0, 1, 2, 3, 4] (kn S2 M2 hO2 hX2 hM2)
  · refine j_aload_n C dL_law_689 rfl ?_
    refine j_iconst C dL_law_690 (v := nI 0) (by decide) ?_
    refine j_lald90 C dL_law_691 (by decide) ?_
    refine j_iload C dL_law_692 rfl ?_
    refine j_i2l C dL_law_694 ?_
    refine j_lcmp C dL_law_695 ?_
    refine j_top C (nI 0) (by rw [Off_out ho2, hor cq686, hbr cq686]; exact lg_self _) ?_
    refine j_if_eqN C dL_law_696 (tgt := 701) (by decide) (by omega) (fun cq696 => ?_) (fun cq696 => absurd cq696 (not_not_intro rfl))
    refine j_goto C dL_law_701 (tgt := 1678) (by decide) ?_
    exact j_pick [0, 1, 2, 3, 4] (kn S2 M2 hO2 hX2 hM2)

set_option maxHeartbeats 4000000 in
set_option maxRecDepth 100000 in
theorem lc_8 {G : GG} {p : Program} {l : Launch} {e : Env} {s : State} {m : MethodId} {below : List Frame} {meth : Method} {c : Code} {A : Nat → Prop} {Q : State → Prop} {k9 n9 : Nat} {M : MM} {b L : Nat} {xs : Nat → Int32} (C : Cx G p s m #[.ref b] meth c A cL_law 9 RL wsL_law) (hXw : XW A s) (hX9 : va_X b L xs s s.heap) (hbl : b < s.heap.size) (hbA : ¬ A b) (hl : l.stackTraces = false) (hL : L ≤ 2048) (hk9 : k9 + 1 ≤ room_1.cells ∧ n9 + 6 ≤ room_1.slots) {i : Nat} (hi : i + 4 ≤ L) {S : SS} (hO : OkS S) (hX : Xc M S) (hM : Xm M S) (kn : ∀ (S2 : SS) (M2 : MM), OkS S2 → Xc M2 S2 → Xm M2 S2 → J G p l e room_1 s m #[.ref b] below meth c A 9 Q (k9 + 1) (n9 + 6) 1678 [(0, .ref b), (1, .ref (G.2.2 72)), (2, .ref (G.2.2 84)), (3, .ref (G.2.2 90)), (4, .int (nI (i)))] [] M2) : J G p l e room_1 s m #[.ref b] below meth c A 9 Q k9 n9 704 [(0, .ref b), (1, .ref (G.2.2 72)), (2, .ref (G.2.2 84)), (3, .ref (G.2.2 90)), (4, .int (nI (i)))] [] M := by
  obtain ⟨t, r, S2, ht, hO2, hcl, hmo⟩ := bo_append (G := G) hl hO (a := xs (i + 1))
  refine j_aload_n C dL_law_704 rfl ?_
  refine j_aload_n C dL_law_705 rfl ?_
  refine j_iload C dL_law_706 rfl ?_
  refine j_iconst C dL_law_708 (v := nI 1) (by decide) ?_
  refine j_iaddN C dL_law_709 ?_
  refine j_sld C hX9 hbl hbA dL_law_710 (by omega) (by omega) ?_
  refine j_aload_n C dL_law_711 rfl ?_
  refine j_callSW C hXw (hcl M hX) dL_law_712 gL_law_L_append rfl ks_L_append rfl rfl (Nat.le_of_ble_eq_true rfl) ⟨Nat.le_of_ble_eq_true rfl, Nat.le_of_ble_eq_true rfl⟩ hk9 (k_IQ fun M1 hq => ?_)
  obtain ⟨hX1, hz1, hor⟩ := hq
  have hM1 := hM.oz hz1
  refine j_istore C dL_law_715 (by decide) ?_
  refine j_aload_n C dL_law_717 rfl ?_
  refine j_aload_n C dL_law_718 rfl ?_
  refine j_iload C dL_law_719 rfl ?_
  refine j_iconst C dL_law_721 (v := nI 1) (by decide) ?_
  refine j_iaddN C dL_law_722 ?_
  refine j_sld C hX9 hbl hbA dL_law_723 (by omega) (by omega) ?_
  refine j_callV C (hmo M1 hM1) dL_law_724 rfl (by decide) (T := TX6) rfl gL_law_X6_append rfl kd_X6_append rfl rfl (Nat.le_of_ble_eq_true rfl) ⟨Nat.le_of_ble_eq_true rfl, Nat.le_of_ble_eq_true rfl⟩ hk9 (k_MQ fun bb M2 hq => ?_)
  obtain ⟨hbr, hM2, ho2, ht5⟩ := hq
  have hX2 := hX1.offM ho2
  refine j_istore C dL_law_727 (by decide) ?_
  refine j_aload_n C dL_law_729 rfl ?_
  refine j_callV C cm_thrown dL_law_730 rfl (by decide) (T := TX6) rfl gL_law_X6_thrown rfl kd_X6_thrown rfl rfl (Nat.le_of_ble_eq_true rfl) ⟨Nat.le_of_ble_eq_true rfl, Nat.le_of_ble_eq_true rfl⟩ hk9 (k_I ?_)
  refine j_top C (nI t) ht5 ?_
  refine j_iload C dL_law_733 rfl ?_
  refine j_icmp_eqN C dL_law_735 (tgt := 740) (by decide) (by omega) (by omega) (fun cq735 => ?_) (fun cq735 => absurd cq735 (not_not_intro rfl))
  refine j_iload C dL_law_740 rfl ?_
  refine j_if_neN C dL_law_742 (tgt := 757) (by decide) (by omega) (fun cq742 => ?_) (fun cq742 => ?_)
  · refine j_goto C dL_law_757 (tgt := 1678) (by decide) ?_
    exact j_pick [0, 1, 2, 3, 4] (kn S2 M2 hO2 hX2 hM2)
  · refine j_aload_n C dL_law_745 rfl ?_
    refine j_iconst C dL_law_746 (v := nI 0) (by decide) ?_
    refine j_lald90 C dL_law_747 (by decide) ?_
    refine j_iload C dL_law_748 rfl ?_
    refine j_i2l C dL_law_750 ?_
    refine j_lcmp C dL_law_751 ?_
    refine j_top C (nI 0) (by rw [Off_out ho2, hor cq742, hbr cq742]; exact lg_self _) ?_
    refine j_if_eqN C dL_law_752 (tgt := 757) (by decide) (by omega) (fun cq752 => ?_) (fun cq752 => absurd cq752 (not_not_intro rfl))
    refine j_goto C dL_law_757 (tgt := 1678) (by decide) ?_
    exact j_pick [0, 1, 2, 3, 4] (kn S2 M2 hO2 hX2 hM2)

set_option maxHeartbeats 4000000 in
set_option maxRecDepth 100000 in
theorem lc_9 {G : GG} {p : Program} {l : Launch} {e : Env} {s : State} {m : MethodId} {below : List Frame} {meth : Method} {c : Code} {A : Nat → Prop} {Q : State → Prop} {k9 n9 : Nat} {M : MM} {b L : Nat} {xs : Nat → Int32} (C : Cx G p s m #[.ref b] meth c A cL_law 9 RL wsL_law) (hXw : XW A s) (hX9 : va_X b L xs s s.heap) (hbl : b < s.heap.size) (hbA : ¬ A b) (hl : l.stackTraces = false) (hL : L ≤ 2048) (hk9 : k9 + 1 ≤ room_1.cells ∧ n9 + 6 ≤ room_1.slots) {i : Nat} (hi : i + 4 ≤ L) {S : SS} (hO : OkS S) (hX : Xc M S) (hM : Xm M S) (kn : ∀ (S2 : SS) (M2 : MM), OkS S2 → Xc M2 S2 → Xm M2 S2 → J G p l e room_1 s m #[.ref b] below meth c A 9 Q (k9 + 1) (n9 + 6) 1678 [(0, .ref b), (1, .ref (G.2.2 72)), (2, .ref (G.2.2 84)), (3, .ref (G.2.2 90)), (4, .int (nI (i)))] [] M2) : J G p l e room_1 s m #[.ref b] below meth c A 9 Q k9 n9 760 [(0, .ref b), (1, .ref (G.2.2 72)), (2, .ref (G.2.2 84)), (3, .ref (G.2.2 90)), (4, .int (nI (i)))] [] M := by
  refine j_widen (k := k9 + 1) (n := n9 + 6) (Nat.le_succ _) (Nat.le_add_right _ _) ?_
  refine j_aload_n C dL_law_760 rfl ?_
  refine j_callV C (ct_clearBuffer hX hO) dL_law_761 rfl (by decide) (T := TX5) rfl gL_law_X5_clearBuffer rfl kd_X5_clearBuffer rfl rfl (Nat.le_of_ble_eq_true rfl) ⟨Nat.le_of_ble_eq_true rfl, Nat.le_of_ble_eq_true rfl⟩ hk9 (k_IQ fun M1 hq => ?_)
  obtain ⟨hX1, hz1⟩ := hq
  have hM1 := hM.oz hz1.oz
  refine j_aload_n C dL_law_764 rfl ?_
  refine j_callV C (cm_clearBuffer hM1 hO) dL_law_765 rfl (by decide) (T := TX6) rfl gL_law_X6_clearBuffer rfl kd_X6_clearBuffer rfl rfl (Nat.le_of_ble_eq_true rfl) ⟨Nat.le_of_ble_eq_true rfl, Nat.le_of_ble_eq_true rfl⟩ hk9 (k_IQ fun M2 hq => ?_)
  obtain ⟨hM2, ho2, -⟩ := hq
  refine j_icmp_eq C dL_law_768 (tgt := 1678) (by decide) (fun cq768 => ?_) (fun cq768 => absurd cq768 (not_not_intro rfl))
  exact j_pick [0, 1, 2, 3, 4] (kn (setT S 0 S.2.2.2.2.2.2) M2 (OkS.text hO) (hX1.offM ho2) hM2)

set_option maxHeartbeats 4000000 in
set_option maxRecDepth 100000 in
theorem lc_10 {G : GG} {p : Program} {l : Launch} {e : Env} {s : State} {m : MethodId} {below : List Frame} {meth : Method} {c : Code} {A : Nat → Prop} {Q : State → Prop} {k9 n9 : Nat} {M : MM} {b L : Nat} {xs : Nat → Int32} (C : Cx G p s m #[.ref b] meth c A cL_law 9 RL wsL_law) (hXw : XW A s) (hX9 : va_X b L xs s s.heap) (hbl : b < s.heap.size) (hbA : ¬ A b) (hl : l.stackTraces = false) (hL : L ≤ 2048) (hk9 : k9 + 1 ≤ room_1.cells ∧ n9 + 6 ≤ room_1.slots) {i : Nat} (hi : i + 4 ≤ L) {S : SS} (hO : OkS S) (hX : Xc M S) (hM : Xm M S) (kn : ∀ (S2 : SS) (M2 : MM), OkS S2 → Xc M2 S2 → Xm M2 S2 → J G p l e room_1 s m #[.ref b] below meth c A 9 Q (k9 + 1) (n9 + 6) 1678 [(0, .ref b), (1, .ref (G.2.2 72)), (2, .ref (G.2.2 84)), (3, .ref (G.2.2 90)), (4, .int (nI (i)))] [] M2) : J G p l e room_1 s m #[.ref b] below meth c A 9 Q k9 n9 773 [(0, .ref b), (1, .ref (G.2.2 72)), (2, .ref (G.2.2 84)), (3, .ref (G.2.2 90)), (4, .int (nI (i)))] [] M := by
  refine j_widen (k := k9 + 1) (n := n9 + 6) (Nat.le_succ _) (Nat.le_add_right _ _) ?_
  refine j_aload_n C dL_law_773 rfl ?_
  refine j_callV C (ct_firstError hX hO) dL_law_774 rfl (by decide) (T := TX5) rfl gL_law_X5_firstError rfl kd_X5_firstError rfl rfl (Nat.le_of_ble_eq_true rfl) ⟨Nat.le_of_ble_eq_true rfl, Nat.le_of_ble_eq_true rfl⟩ hk9 (k_I ?_)
  refine j_aload_n C dL_law_777 rfl ?_
  refine j_callV C (cm_firstError hM hO) dL_law_778 rfl (by decide) (T := TX6) rfl gL_law_X6_firstError rfl kd_X6_firstError rfl rfl (Nat.le_of_ble_eq_true rfl) ⟨Nat.le_of_ble_eq_true rfl, Nat.le_of_ble_eq_true rfl⟩ hk9 (k_IQ fun M2 hq => ?_)
  obtain ⟨hM2, ho2, -⟩ := hq
  refine j_icmp_eq C dL_law_781 (tgt := 1678) (by decide) (fun cq781 => ?_) (fun cq781 => absurd cq781 (not_not_intro rfl))
  exact j_pick [0, 1, 2, 3, 4] (kn (S) M2 hO (hX.offM ho2) hM2)

set_option maxHeartbeats 4000000 in
set_option maxRecDepth 100000 in
theorem lc_11 {G : GG} {p : Program} {l : Launch} {e : Env} {s : State} {m : MethodId} {below : List Frame} {meth : Method} {c : Code} {A : Nat → Prop} {Q : State → Prop} {k9 n9 : Nat} {M : MM} {b L : Nat} {xs : Nat → Int32} (C : Cx G p s m #[.ref b] meth c A cL_law 9 RL wsL_law) (hXw : XW A s) (hX9 : va_X b L xs s s.heap) (hbl : b < s.heap.size) (hbA : ¬ A b) (hl : l.stackTraces = false) (hL : L ≤ 2048) (hk9 : k9 + 1 ≤ room_1.cells ∧ n9 + 6 ≤ room_1.slots) {i : Nat} (hi : i + 4 ≤ L) {S : SS} (hO : OkS S) (hX : Xc M S) (hM : Xm M S) (kn : ∀ (S2 : SS) (M2 : MM), OkS S2 → Xc M2 S2 → Xm M2 S2 → J G p l e room_1 s m #[.ref b] below meth c A 9 Q (k9 + 1) (n9 + 6) 1678 [(0, .ref b), (1, .ref (G.2.2 72)), (2, .ref (G.2.2 84)), (3, .ref (G.2.2 90)), (4, .int (nI (i)))] [] M2) : J G p l e room_1 s m #[.ref b] below meth c A 9 Q k9 n9 786 [(0, .ref b), (1, .ref (G.2.2 72)), (2, .ref (G.2.2 84)), (3, .ref (G.2.2 90)), (4, .int (nI (i)))] [] M := by
  obtain ⟨t, r, S2, ht, hO2, hcl, hmo⟩ := bo_load (G := G) hl hO
  refine j_aload_n C dL_law_786 rfl ?_
  refine j_aload_n C dL_law_787 rfl ?_
  refine j_callSW C hXw (hcl M hX) dL_law_788 gL_law_L_load rfl ks_L_load rfl rfl (Nat.le_of_ble_eq_true rfl) ⟨Nat.le_of_ble_eq_true rfl, Nat.le_of_ble_eq_true rfl⟩ hk9 (k_IQ fun M1 hq => ?_)
  obtain ⟨hX1, hz1, hor⟩ := hq
  have hM1 := hM.oz hz1
  refine j_istore C dL_law_791 (by decide) ?_
  refine j_aload_n C dL_law_793 rfl ?_
  refine j_callV C (hmo M1 hM1) dL_law_794 rfl (by decide) (T := TX6) rfl gL_law_X6_load rfl kd_X6_load rfl rfl (Nat.le_of_ble_eq_true rfl) ⟨Nat.le_of_ble_eq_true rfl, Nat.le_of_ble_eq_true rfl⟩ hk9 (k_MQ fun bb M2 hq => ?_)
  obtain ⟨hbr, hM2, ho2, ht5⟩ := hq
  have hX2 := hX1.offM ho2
  refine j_istore C dL_law_797 (by decide) ?_
  refine j_aload_n C dL_law_799 rfl ?_
  refine j_callV C cm_thrown dL_law_800 rfl (by decide) (T := TX6) rfl gL_law_X6_thrown rfl kd_X6_thrown rfl rfl (Nat.le_of_ble_eq_true rfl) ⟨Nat.le_of_ble_eq_true rfl, Nat.le_of_ble_eq_true rfl⟩ hk9 (k_I ?_)
  refine j_top C (nI t) ht5 ?_
  refine j_iload C dL_law_803 rfl ?_
  refine j_icmp_eqN C dL_law_805 (tgt := 810) (by decide) (by omega) (by omega) (fun cq805 => ?_) (fun cq805 => absurd cq805 (not_not_intro rfl))
  refine j_iload C dL_law_810 rfl ?_
  refine j_if_neN C dL_law_812 (tgt := 827) (by decide) (by omega) (fun cq812 => ?_) (fun cq812 => ?_)
  · refine j_goto C dL_law_827 (tgt := 1678) (by decide) ?_
    exact j_pick [0, 1, 2, 3, 4] (kn S2 M2 hO2 hX2 hM2)
  · refine j_aload_n C dL_law_815 rfl ?_
    refine j_iconst C dL_law_816 (v := nI 0) (by decide) ?_
    refine j_lald90 C dL_law_817 (by decide) ?_
    refine j_iload C dL_law_818 rfl ?_
    refine j_i2l C dL_law_820 ?_
    refine j_lcmp C dL_law_821 ?_
    refine j_top C (nI 0) (by rw [Off_out ho2, hor cq812, hbr cq812]; exact lg_self _) ?_
    refine j_if_eqN C dL_law_822 (tgt := 827) (by decide) (by omega) (fun cq822 => ?_) (fun cq822 => absurd cq822 (not_not_intro rfl))
    refine j_goto C dL_law_827 (tgt := 1678) (by decide) ?_
    exact j_pick [0, 1, 2, 3, 4] (kn S2 M2 hO2 hX2 hM2)

set_option maxHeartbeats 4000000 in
set_option maxRecDepth 100000 in
theorem lc_12 {G : GG} {p : Program} {l : Launch} {e : Env} {s : State} {m : MethodId} {below : List Frame} {meth : Method} {c : Code} {A : Nat → Prop} {Q : State → Prop} {k9 n9 : Nat} {M : MM} {b L : Nat} {xs : Nat → Int32} (C : Cx G p s m #[.ref b] meth c A cL_law 9 RL wsL_law) (hXw : XW A s) (hX9 : va_X b L xs s s.heap) (hbl : b < s.heap.size) (hbA : ¬ A b) (hl : l.stackTraces = false) (hL : L ≤ 2048) (hk9 : k9 + 1 ≤ room_1.cells ∧ n9 + 6 ≤ room_1.slots) {i : Nat} (hi : i + 4 ≤ L) {S : SS} (hO : OkS S) (hX : Xc M S) (hM : Xm M S) (kn : ∀ (S2 : SS) (M2 : MM), OkS S2 → Xc M2 S2 → Xm M2 S2 → J G p l e room_1 s m #[.ref b] below meth c A 9 Q (k9 + 1) (n9 + 6) 1678 [(0, .ref b), (1, .ref (G.2.2 72)), (2, .ref (G.2.2 84)), (3, .ref (G.2.2 90)), (4, .int (nI (i)))] [] M2) : J G p l e room_1 s m #[.ref b] below meth c A 9 Q k9 n9 830 [(0, .ref b), (1, .ref (G.2.2 72)), (2, .ref (G.2.2 84)), (3, .ref (G.2.2 90)), (4, .int (nI (i)))] [] M := by
  obtain ⟨t, r, S2, ht, hO2, hcl, hmo⟩ := bo_keep (G := G) hl hO (a := xs (i + 1))
  refine j_aload_n C dL_law_830 rfl ?_
  refine j_aload_n C dL_law_831 rfl ?_
  refine j_iload C dL_law_832 rfl ?_
  refine j_iconst C dL_law_834 (v := nI 1) (by decide) ?_
  refine j_iaddN C dL_law_835 ?_
  refine j_sld C hX9 hbl hbA dL_law_836 (by omega) (by omega) ?_
  refine j_aload_n C dL_law_837 rfl ?_
  refine j_callSW C hXw (hcl M hX) dL_law_838 gL_law_L_keep rfl ks_L_keep rfl rfl (Nat.le_of_ble_eq_true rfl) ⟨Nat.le_of_ble_eq_true rfl, Nat.le_of_ble_eq_true rfl⟩ hk9 (k_IQ fun M1 hq => ?_)
  obtain ⟨hX1, hz1, hor⟩ := hq
  have hM1 := hM.oz hz1
  refine j_istore C dL_law_841 (by decide) ?_
  refine j_aload_n C dL_law_843 rfl ?_
  refine j_aload_n C dL_law_844 rfl ?_
  refine j_iload C dL_law_845 rfl ?_
  refine j_iconst C dL_law_847 (v := nI 1) (by decide) ?_
  refine j_iaddN C dL_law_848 ?_
  refine j_sld C hX9 hbl hbA dL_law_849 (by omega) (by omega) ?_
  refine j_callV C (hmo M1 hM1) dL_law_850 rfl (by decide) (T := TX6) rfl gL_law_X6_keep rfl kd_X6_keep rfl rfl (Nat.le_of_ble_eq_true rfl) ⟨Nat.le_of_ble_eq_true rfl, Nat.le_of_ble_eq_true rfl⟩ hk9 (k_MQ fun bb M2 hq => ?_)
  obtain ⟨hbr, hM2, ho2, ht5⟩ := hq
  have hX2 := hX1.offM ho2
  refine j_istore C dL_law_853 (by decide) ?_
  refine j_aload_n C dL_law_855 rfl ?_
  refine j_callV C cm_thrown dL_law_856 rfl (by decide) (T := TX6) rfl gL_law_X6_thrown rfl kd_X6_thrown rfl rfl (Nat.le_of_ble_eq_true rfl) ⟨Nat.le_of_ble_eq_true rfl, Nat.le_of_ble_eq_true rfl⟩ hk9 (k_I ?_)
  refine j_top C (nI t) ht5 ?_
  refine j_iload C dL_law_859 rfl ?_
  refine j_icmp_eqN C dL_law_861 (tgt := 866) (by decide) (by omega) (by omega) (fun cq861 => ?_) (fun cq861 => absurd cq861 (not_not_intro rfl))
  refine j_iload C dL_law_866 rfl ?_
  refine j_if_neN C dL_law_868 (tgt := 883) (by decide) (by omega) (fun cq868 => ?_) (fun cq868 => ?_)
  · refine j_goto C dL_law_883 (tgt := 1678) (by decide) ?_
    exact j_pick [0, 1, 2, 3, 4] (kn S2 M2 hO2 hX2 hM2)
  · refine j_aload_n C dL_law_871 rfl ?_
    refine j_iconst C dL_law_872 (v := nI 0) (by decide) ?_
    refine j_lald90 C dL_law_873 (by decide) ?_
    refine j_iload C dL_law_874 rfl ?_
    refine j_i2l C dL_law_876 ?_
    refine j_lcmp C dL_law_877 ?_
    refine j_top C (nI 0) (by rw [Off_out ho2, hor cq868, hbr cq868]; exact lg_self _) ?_
    refine j_if_eqN C dL_law_878 (tgt := 883) (by decide) (by omega) (fun cq878 => ?_) (fun cq878 => absurd cq878 (not_not_intro rfl))
    refine j_goto C dL_law_883 (tgt := 1678) (by decide) ?_
    exact j_pick [0, 1, 2, 3, 4] (kn S2 M2 hO2 hX2 hM2)

set_option maxHeartbeats 4000000 in
set_option maxRecDepth 100000 in
theorem lc_13 {G : GG} {p : Program} {l : Launch} {e : Env} {s : State} {m : MethodId} {below : List Frame} {meth : Method} {c : Code} {A : Nat → Prop} {Q : State → Prop} {k9 n9 : Nat} {M : MM} {b L : Nat} {xs : Nat → Int32} (C : Cx G p s m #[.ref b] meth c A cL_law 9 RL wsL_law) (hXw : XW A s) (hX9 : va_X b L xs s s.heap) (hbl : b < s.heap.size) (hbA : ¬ A b) (hl : l.stackTraces = false) (hL : L ≤ 2048) (hk9 : k9 + 1 ≤ room_1.cells ∧ n9 + 6 ≤ room_1.slots) {i : Nat} (hi : i + 4 ≤ L) {S : SS} (hO : OkS S) (hX : Xc M S) (hM : Xm M S) (kn : ∀ (S2 : SS) (M2 : MM), OkS S2 → Xc M2 S2 → Xm M2 S2 → J G p l e room_1 s m #[.ref b] below meth c A 9 Q (k9 + 1) (n9 + 6) 1678 [(0, .ref b), (1, .ref (G.2.2 72)), (2, .ref (G.2.2 84)), (3, .ref (G.2.2 90)), (4, .int (nI (i)))] [] M2) : J G p l e room_1 s m #[.ref b] below meth c A 9 Q k9 n9 886 [(0, .ref b), (1, .ref (G.2.2 72)), (2, .ref (G.2.2 84)), (3, .ref (G.2.2 90)), (4, .int (nI (i)))] [] M := by
  obtain ⟨t, r, S2, ht, hO2, hcl, hmo⟩ := bo_goBack (G := G) hl hO (a := xs (i + 1))
  refine j_aload_n C dL_law_886 rfl ?_
  refine j_aload_n C dL_law_887 rfl ?_
  refine j_iload C dL_law_888 rfl ?_
  refine j_iconst C dL_law_890 (v := nI 1) (by decide) ?_
  refine j_iaddN C dL_law_891 ?_
  refine j_sld C hX9 hbl hbA dL_law_892 (by omega) (by omega) ?_
  refine j_aload_n C dL_law_893 rfl ?_
  refine j_callSW C hXw (hcl M hX) dL_law_894 gL_law_L_goBack rfl ks_L_goBack rfl rfl (Nat.le_of_ble_eq_true rfl) ⟨Nat.le_of_ble_eq_true rfl, Nat.le_of_ble_eq_true rfl⟩ hk9 (k_IQ fun M1 hq => ?_)
  obtain ⟨hX1, hz1, hor⟩ := hq
  have hM1 := hM.oz hz1
  refine j_istore C dL_law_897 (by decide) ?_
  refine j_aload_n C dL_law_899 rfl ?_
  refine j_aload_n C dL_law_900 rfl ?_
  refine j_iload C dL_law_901 rfl ?_
  refine j_iconst C dL_law_903 (v := nI 1) (by decide) ?_
  refine j_iaddN C dL_law_904 ?_
  refine j_sld C hX9 hbl hbA dL_law_905 (by omega) (by omega) ?_
  refine j_callV C (hmo M1 hM1) dL_law_906 rfl (by decide) (T := TX6) rfl gL_law_X6_goBack rfl kd_X6_goBack rfl rfl (Nat.le_of_ble_eq_true rfl) ⟨Nat.le_of_ble_eq_true rfl, Nat.le_of_ble_eq_true rfl⟩ hk9 (k_MQ fun bb M2 hq => ?_)
  obtain ⟨hbr, hM2, ho2, ht5⟩ := hq
  have hX2 := hX1.offM ho2
  refine j_istore C dL_law_909 (by decide) ?_
  refine j_aload_n C dL_law_911 rfl ?_
  refine j_callV C cm_thrown dL_law_912 rfl (by decide) (T := TX6) rfl gL_law_X6_thrown rfl kd_X6_thrown rfl rfl (Nat.le_of_ble_eq_true rfl) ⟨Nat.le_of_ble_eq_true rfl, Nat.le_of_ble_eq_true rfl⟩ hk9 (k_I ?_)
  refine j_top C (nI t) ht5 ?_
  refine j_iload C dL_law_915 rfl ?_
  refine j_icmp_eqN C dL_law_917 (tgt := 922) (by decide) (by omega) (by omega) (fun cq917 => ?_) (fun cq917 => absurd cq917 (not_not_intro rfl))
  refine j_iload C dL_law_922 rfl ?_
  refine j_if_neN C dL_law_924 (tgt := 939) (by decide) (by omega) (fun cq924 => ?_) (fun cq924 => ?_)
  · refine j_goto C dL_law_939 (tgt := 1678) (by decide) ?_
    exact j_pick [0, 1, 2, 3, 4] (kn S2 M2 hO2 hX2 hM2)
  · refine j_aload_n C dL_law_927 rfl ?_
    refine j_iconst C dL_law_928 (v := nI 0) (by decide) ?_
    refine j_lald90 C dL_law_929 (by decide) ?_
    refine j_iload C dL_law_930 rfl ?_
    refine j_i2l C dL_law_932 ?_
    refine j_lcmp C dL_law_933 ?_
    refine j_top C (nI 0) (by rw [Off_out ho2, hor cq924, hbr cq924]; exact lg_self _) ?_
    refine j_if_eqN C dL_law_934 (tgt := 939) (by decide) (by omega) (fun cq934 => ?_) (fun cq934 => absurd cq934 (not_not_intro rfl))
    refine j_goto C dL_law_939 (tgt := 1678) (by decide) ?_
    exact j_pick [0, 1, 2, 3, 4] (kn S2 M2 hO2 hX2 hM2)

set_option maxHeartbeats 4000000 in
set_option maxRecDepth 100000 in
theorem lc_14 {G : GG} {p : Program} {l : Launch} {e : Env} {s : State} {m : MethodId} {below : List Frame} {meth : Method} {c : Code} {A : Nat → Prop} {Q : State → Prop} {k9 n9 : Nat} {M : MM} {b L : Nat} {xs : Nat → Int32} (C : Cx G p s m #[.ref b] meth c A cL_law 9 RL wsL_law) (hXw : XW A s) (hX9 : va_X b L xs s s.heap) (hbl : b < s.heap.size) (hbA : ¬ A b) (hl : l.stackTraces = false) (hL : L ≤ 2048) (hk9 : k9 + 1 ≤ room_1.cells ∧ n9 + 6 ≤ room_1.slots) {i : Nat} (hi : i + 4 ≤ L) {S : SS} (hO : OkS S) (hX : Xc M S) (hM : Xm M S) (kn : ∀ (S2 : SS) (M2 : MM), OkS S2 → Xc M2 S2 → Xm M2 S2 → J G p l e room_1 s m #[.ref b] below meth c A 9 Q (k9 + 1) (n9 + 6) 1678 [(0, .ref b), (1, .ref (G.2.2 72)), (2, .ref (G.2.2 84)), (3, .ref (G.2.2 90)), (4, .int (nI (i)))] [] M2) : J G p l e room_1 s m #[.ref b] below meth c A 9 Q k9 n9 942 [(0, .ref b), (1, .ref (G.2.2 72)), (2, .ref (G.2.2 84)), (3, .ref (G.2.2 90)), (4, .int (nI (i)))] [] M := by
  obtain ⟨t, r, S2, ht, hO2, hcl, hmo⟩ := bo_undo (G := G) hl hO
  refine j_aload_n C dL_law_942 rfl ?_
  refine j_aload_n C dL_law_943 rfl ?_
  refine j_callSW C hXw (hcl M hX) dL_law_944 gL_law_L_undo rfl ks_L_undo rfl rfl (Nat.le_of_ble_eq_true rfl) ⟨Nat.le_of_ble_eq_true rfl, Nat.le_of_ble_eq_true rfl⟩ hk9 (k_IQ fun M1 hq => ?_)
  obtain ⟨hX1, hz1, hor⟩ := hq
  have hM1 := hM.oz hz1
  refine j_istore C dL_law_947 (by decide) ?_
  refine j_aload_n C dL_law_949 rfl ?_
  refine j_callV C (hmo M1 hM1) dL_law_950 rfl (by decide) (T := TX6) rfl gL_law_X6_undo rfl kd_X6_undo rfl rfl (Nat.le_of_ble_eq_true rfl) ⟨Nat.le_of_ble_eq_true rfl, Nat.le_of_ble_eq_true rfl⟩ hk9 (k_MQ fun bb M2 hq => ?_)
  obtain ⟨hbr, hM2, ho2, ht5⟩ := hq
  have hX2 := hX1.offM ho2
  refine j_istore C dL_law_953 (by decide) ?_
  refine j_aload_n C dL_law_955 rfl ?_
  refine j_callV C cm_thrown dL_law_956 rfl (by decide) (T := TX6) rfl gL_law_X6_thrown rfl kd_X6_thrown rfl rfl (Nat.le_of_ble_eq_true rfl) ⟨Nat.le_of_ble_eq_true rfl, Nat.le_of_ble_eq_true rfl⟩ hk9 (k_I ?_)
  refine j_top C (nI t) ht5 ?_
  refine j_iload C dL_law_959 rfl ?_
  refine j_icmp_eqN C dL_law_961 (tgt := 966) (by decide) (by omega) (by omega) (fun cq961 => ?_) (fun cq961 => absurd cq961 (not_not_intro rfl))
  refine j_iload C dL_law_966 rfl ?_
  refine j_if_neN C dL_law_968 (tgt := 983) (by decide) (by omega) (fun cq968 => ?_) (fun cq968 => ?_)
  · refine j_goto C dL_law_983 (tgt := 1678) (by decide) ?_
    exact j_pick [0, 1, 2, 3, 4] (kn S2 M2 hO2 hX2 hM2)
  · refine j_aload_n C dL_law_971 rfl ?_
    refine j_iconst C dL_law_972 (v := nI 0) (by decide) ?_
    refine j_lald90 C dL_law_973 (by decide) ?_
    refine j_iload C dL_law_974 rfl ?_
    refine j_i2l C dL_law_976 ?_
    refine j_lcmp C dL_law_977 ?_
    refine j_top C (nI 0) (by rw [Off_out ho2, hor cq968, hbr cq968]; exact lg_self _) ?_
    refine j_if_eqN C dL_law_978 (tgt := 983) (by decide) (by omega) (fun cq978 => ?_) (fun cq978 => absurd cq978 (not_not_intro rfl))
    refine j_goto C dL_law_983 (tgt := 1678) (by decide) ?_
    exact j_pick [0, 1, 2, 3, 4] (kn S2 M2 hO2 hX2 hM2)

set_option maxHeartbeats 4000000 in
set_option maxRecDepth 100000 in
theorem lc_15 {G : GG} {p : Program} {l : Launch} {e : Env} {s : State} {m : MethodId} {below : List Frame} {meth : Method} {c : Code} {A : Nat → Prop} {Q : State → Prop} {k9 n9 : Nat} {M : MM} {b L : Nat} {xs : Nat → Int32} (C : Cx G p s m #[.ref b] meth c A cL_law 9 RL wsL_law) (hXw : XW A s) (hX9 : va_X b L xs s s.heap) (hbl : b < s.heap.size) (hbA : ¬ A b) (hl : l.stackTraces = false) (hL : L ≤ 2048) (hk9 : k9 + 1 ≤ room_1.cells ∧ n9 + 6 ≤ room_1.slots) {i : Nat} (hi : i + 4 ≤ L) {S : SS} (hO : OkS S) (hX : Xc M S) (hM : Xm M S) (kn : ∀ (S2 : SS) (M2 : MM), OkS S2 → Xc M2 S2 → Xm M2 S2 → J G p l e room_1 s m #[.ref b] below meth c A 9 Q (k9 + 1) (n9 + 6) 1678 [(0, .ref b), (1, .ref (G.2.2 72)), (2, .ref (G.2.2 84)), (3, .ref (G.2.2 90)), (4, .int (nI (i)))] [] M2) : J G p l e room_1 s m #[.ref b] below meth c A 9 Q k9 n9 986 [(0, .ref b), (1, .ref (G.2.2 72)), (2, .ref (G.2.2 84)), (3, .ref (G.2.2 90)), (4, .int (nI (i)))] [] M := by
  obtain ⟨t, r, S2, ht, hO2, hcl, hmo⟩ := bo_potOf (G := G) hl hO (a := xs (i + 1)) (b := xs (i + 2))
  refine j_aload_n C dL_law_986 rfl ?_
  refine j_aload_n C dL_law_987 rfl ?_
  refine j_iload C dL_law_988 rfl ?_
  refine j_iconst C dL_law_990 (v := nI 1) (by decide) ?_
  refine j_iaddN C dL_law_991 ?_
  refine j_sld C hX9 hbl hbA dL_law_992 (by omega) (by omega) ?_
  refine j_aload_n C dL_law_993 rfl ?_
  refine j_iload C dL_law_994 rfl ?_
  refine j_iconst C dL_law_996 (v := nI 2) (by decide) ?_
  refine j_iaddN C dL_law_997 ?_
  refine j_sld C hX9 hbl hbA dL_law_998 (by omega) (by omega) ?_
  refine j_aload_n C dL_law_999 rfl ?_
  refine j_callSW C hXw (hcl M hX) dL_law_1000 gL_law_L_potOf rfl ks_L_potOf rfl rfl (Nat.le_of_ble_eq_true rfl) ⟨Nat.le_of_ble_eq_true rfl, Nat.le_of_ble_eq_true rfl⟩ hk9 (k_IQ fun M1 hq => ?_)
  obtain ⟨hX1, hz1, hor⟩ := hq
  have hM1 := hM.oz hz1
  refine j_istore C dL_law_1003 (by decide) ?_
  refine j_aload_n C dL_law_1005 rfl ?_
  refine j_aload_n C dL_law_1006 rfl ?_
  refine j_iload C dL_law_1007 rfl ?_
  refine j_iconst C dL_law_1009 (v := nI 1) (by decide) ?_
  refine j_iaddN C dL_law_1010 ?_
  refine j_sld C hX9 hbl hbA dL_law_1011 (by omega) (by omega) ?_
  refine j_aload_n C dL_law_1012 rfl ?_
  refine j_iload C dL_law_1013 rfl ?_
  refine j_iconst C dL_law_1015 (v := nI 2) (by decide) ?_
  refine j_iaddN C dL_law_1016 ?_
  refine j_sld C hX9 hbl hbA dL_law_1017 (by omega) (by omega) ?_
  refine j_callV C (hmo M1 hM1) dL_law_1018 rfl (by decide) (T := TX6) rfl gL_law_X6_potOf rfl kd_X6_potOf rfl rfl (Nat.le_of_ble_eq_true rfl) ⟨Nat.le_of_ble_eq_true rfl, Nat.le_of_ble_eq_true rfl⟩ hk9 (k_MQ fun bb M2 hq => ?_)
  obtain ⟨hbr, hM2, ho2, ht5⟩ := hq
  have hX2 := hX1.offM ho2
  refine j_istore C dL_law_1021 (by decide) ?_
  refine j_aload_n C dL_law_1023 rfl ?_
  refine j_callV C cm_thrown dL_law_1024 rfl (by decide) (T := TX6) rfl gL_law_X6_thrown rfl kd_X6_thrown rfl rfl (Nat.le_of_ble_eq_true rfl) ⟨Nat.le_of_ble_eq_true rfl, Nat.le_of_ble_eq_true rfl⟩ hk9 (k_I ?_)
  refine j_top C (nI t) ht5 ?_
  refine j_iload C dL_law_1027 rfl ?_
  refine j_icmp_eqN C dL_law_1029 (tgt := 1034) (by decide) (by omega) (by omega) (fun cq1029 => ?_) (fun cq1029 => absurd cq1029 (not_not_intro rfl))
  refine j_iload C dL_law_1034 rfl ?_
  refine j_if_neN C dL_law_1036 (tgt := 1051) (by decide) (by omega) (fun cq1036 => ?_) (fun cq1036 => ?_)
  · refine j_goto C dL_law_1051 (tgt := 1678) (by decide) ?_
    exact j_pick [0, 1, 2, 3, 4] (kn S2 M2 hO2 hX2 hM2)
  · refine j_aload_n C dL_law_1039 rfl ?_
    refine j_iconst C dL_law_1040 (v := nI 0) (by decide) ?_
    refine j_lald90 C dL_law_1041 (by decide) ?_
    refine j_iload C dL_law_1042 rfl ?_
    refine j_i2l C dL_law_1044 ?_
    refine j_lcmp C dL_law_1045 ?_
    refine j_top C (nI 0) (by rw [Off_out ho2, hor cq1036, hbr cq1036]; exact lg_self _) ?_
    refine j_if_eqN C dL_law_1046 (tgt := 1051) (by decide) (by omega) (fun cq1046 => ?_) (fun cq1046 => absurd cq1046 (not_not_intro rfl))
    refine j_goto C dL_law_1051 (tgt := 1678) (by decide) ?_
    exact j_pick [0, 1, 2, 3, 4] (kn S2 M2 hO2 hX2 hM2)

set_option maxHeartbeats 4000000 in
set_option maxRecDepth 100000 in
theorem lc_16 {G : GG} {p : Program} {l : Launch} {e : Env} {s : State} {m : MethodId} {below : List Frame} {meth : Method} {c : Code} {A : Nat → Prop} {Q : State → Prop} {k9 n9 : Nat} {M : MM} {b L : Nat} {xs : Nat → Int32} (C : Cx G p s m #[.ref b] meth c A cL_law 9 RL wsL_law) (hXw : XW A s) (hX9 : va_X b L xs s s.heap) (hbl : b < s.heap.size) (hbA : ¬ A b) (hl : l.stackTraces = false) (hL : L ≤ 2048) (hk9 : k9 + 1 ≤ room_1.cells ∧ n9 + 6 ≤ room_1.slots) {i : Nat} (hi : i + 4 ≤ L) {S : SS} (hO : OkS S) (hX : Xc M S) (hM : Xm M S) (kn : ∀ (S2 : SS) (M2 : MM), OkS S2 → Xc M2 S2 → Xm M2 S2 → J G p l e room_1 s m #[.ref b] below meth c A 9 Q (k9 + 1) (n9 + 6) 1678 [(0, .ref b), (1, .ref (G.2.2 72)), (2, .ref (G.2.2 84)), (3, .ref (G.2.2 90)), (4, .int (nI (i)))] [] M2) : J G p l e room_1 s m #[.ref b] below meth c A 9 Q k9 n9 1054 [(0, .ref b), (1, .ref (G.2.2 72)), (2, .ref (G.2.2 84)), (3, .ref (G.2.2 90)), (4, .int (nI (i)))] [] M := by
  obtain ⟨t, r, S2, ht, hO2, hcl, hmo⟩ := bo_seen (G := G) hl hO (a := xs (i + 1)) (b := xs (i + 2))
  refine j_aload_n C dL_law_1054 rfl ?_
  refine j_aload_n C dL_law_1055 rfl ?_
  refine j_iload C dL_law_1056 rfl ?_
  refine j_iconst C dL_law_1058 (v := nI 1) (by decide) ?_
  refine j_iaddN C dL_law_1059 ?_
  refine j_sld C hX9 hbl hbA dL_law_1060 (by omega) (by omega) ?_
  refine j_aload_n C dL_law_1061 rfl ?_
  refine j_iload C dL_law_1062 rfl ?_
  refine j_iconst C dL_law_1064 (v := nI 2) (by decide) ?_
  refine j_iaddN C dL_law_1065 ?_
  refine j_sld C hX9 hbl hbA dL_law_1066 (by omega) (by omega) ?_
  refine j_aload_n C dL_law_1067 rfl ?_
  refine j_callSW C hXw (hcl M hX) dL_law_1068 gL_law_L_seen rfl ks_L_seen rfl rfl (Nat.le_of_ble_eq_true rfl) ⟨Nat.le_of_ble_eq_true rfl, Nat.le_of_ble_eq_true rfl⟩ hk9 (k_IQ fun M1 hq => ?_)
  obtain ⟨hX1, hz1, hor⟩ := hq
  have hM1 := hM.oz hz1
  refine j_istore C dL_law_1071 (by decide) ?_
  refine j_aload_n C dL_law_1073 rfl ?_
  refine j_aload_n C dL_law_1074 rfl ?_
  refine j_iload C dL_law_1075 rfl ?_
  refine j_iconst C dL_law_1077 (v := nI 1) (by decide) ?_
  refine j_iaddN C dL_law_1078 ?_
  refine j_sld C hX9 hbl hbA dL_law_1079 (by omega) (by omega) ?_
  refine j_aload_n C dL_law_1080 rfl ?_
  refine j_iload C dL_law_1081 rfl ?_
  refine j_iconst C dL_law_1083 (v := nI 2) (by decide) ?_
  refine j_iaddN C dL_law_1084 ?_
  refine j_sld C hX9 hbl hbA dL_law_1085 (by omega) (by omega) ?_
  refine j_callV C (hmo M1 hM1) dL_law_1086 rfl (by decide) (T := TX6) rfl gL_law_X6_seen rfl kd_X6_seen rfl rfl (Nat.le_of_ble_eq_true rfl) ⟨Nat.le_of_ble_eq_true rfl, Nat.le_of_ble_eq_true rfl⟩ hk9 (k_MQ fun bb M2 hq => ?_)
  obtain ⟨hbr, hM2, ho2, ht5⟩ := hq
  have hX2 := hX1.offM ho2
  refine j_istore C dL_law_1089 (by decide) ?_
  refine j_aload_n C dL_law_1091 rfl ?_
  refine j_callV C cm_thrown dL_law_1092 rfl (by decide) (T := TX6) rfl gL_law_X6_thrown rfl kd_X6_thrown rfl rfl (Nat.le_of_ble_eq_true rfl) ⟨Nat.le_of_ble_eq_true rfl, Nat.le_of_ble_eq_true rfl⟩ hk9 (k_I ?_)
  refine j_top C (nI t) ht5 ?_
  refine j_iload C dL_law_1095 rfl ?_
  refine j_icmp_eqN C dL_law_1097 (tgt := 1102) (by decide) (by omega) (by omega) (fun cq1097 => ?_) (fun cq1097 => absurd cq1097 (not_not_intro rfl))
  refine j_iload C dL_law_1102 rfl ?_
  refine j_if_neN C dL_law_1104 (tgt := 1119) (by decide) (by omega) (fun cq1104 => ?_) (fun cq1104 => ?_)
  · refine j_goto C dL_law_1119 (tgt := 1678) (by decide) ?_
    exact j_pick [0, 1, 2, 3, 4] (kn S2 M2 hO2 hX2 hM2)
  · refine j_aload_n C dL_law_1107 rfl ?_
    refine j_iconst C dL_law_1108 (v := nI 0) (by decide) ?_
    refine j_lald90 C dL_law_1109 (by decide) ?_
    refine j_iload C dL_law_1110 rfl ?_
    refine j_i2l C dL_law_1112 ?_
    refine j_lcmp C dL_law_1113 ?_
    refine j_top C (nI 0) (by rw [Off_out ho2, hor cq1104, hbr cq1104]; exact lg_self _) ?_
    refine j_if_eqN C dL_law_1114 (tgt := 1119) (by decide) (by omega) (fun cq1114 => ?_) (fun cq1114 => absurd cq1114 (not_not_intro rfl))
    refine j_goto C dL_law_1119 (tgt := 1678) (by decide) ?_
    exact j_pick [0, 1, 2, 3, 4] (kn S2 M2 hO2 hX2 hM2)

set_option maxHeartbeats 4000000 in
set_option maxRecDepth 100000 in
theorem lc_17 {G : GG} {p : Program} {l : Launch} {e : Env} {s : State} {m : MethodId} {below : List Frame} {meth : Method} {c : Code} {A : Nat → Prop} {Q : State → Prop} {k9 n9 : Nat} {M : MM} {b L : Nat} {xs : Nat → Int32} (C : Cx G p s m #[.ref b] meth c A cL_law 9 RL wsL_law) (hXw : XW A s) (hX9 : va_X b L xs s s.heap) (hbl : b < s.heap.size) (hbA : ¬ A b) (hl : l.stackTraces = false) (hL : L ≤ 2048) (hk9 : k9 + 1 ≤ room_1.cells ∧ n9 + 6 ≤ room_1.slots) {i : Nat} (hi : i + 4 ≤ L) {S : SS} (hO : OkS S) (hX : Xc M S) (hM : Xm M S) (kn : ∀ (S2 : SS) (M2 : MM), OkS S2 → Xc M2 S2 → Xm M2 S2 → J G p l e room_1 s m #[.ref b] below meth c A 9 Q (k9 + 1) (n9 + 6) 1678 [(0, .ref b), (1, .ref (G.2.2 72)), (2, .ref (G.2.2 84)), (3, .ref (G.2.2 90)), (4, .int (nI (i)))] [] M2) : J G p l e room_1 s m #[.ref b] below meth c A 9 Q k9 n9 1122 [(0, .ref b), (1, .ref (G.2.2 72)), (2, .ref (G.2.2 84)), (3, .ref (G.2.2 90)), (4, .int (nI (i)))] [] M := by
  obtain ⟨t, r, S2, ht, hO2, hcl, hmo⟩ := bo_painterOf (G := G) hl hO (a := xs (i + 1)) (b := xs (i + 2))
  refine j_aload_n C dL_law_1122 rfl ?_
  refine j_aload_n C dL_law_1123 rfl ?_
  refine j_iload C dL_law_1124 rfl ?_
  refine j_iconst C dL_law_1126 (v := nI 1) (by decide) ?_
  refine j_iaddN C dL_law_1127 ?_
  refine j_sld C hX9 hbl hbA dL_law_1128 (by omega) (by omega) ?_
  refine j_aload_n C dL_law_1129 rfl ?_
  refine j_iload C dL_law_1130 rfl ?_
  refine j_iconst C dL_law_1132 (v := nI 2) (by decide) ?_
  refine j_iaddN C dL_law_1133 ?_
  refine j_sld C hX9 hbl hbA dL_law_1134 (by omega) (by omega) ?_
  refine j_aload_n C dL_law_1135 rfl ?_
  refine j_callSW C hXw (hcl M hX) dL_law_1136 gL_law_L_painterOf rfl ks_L_painterOf rfl rfl (Nat.le_of_ble_eq_true rfl) ⟨Nat.le_of_ble_eq_true rfl, Nat.le_of_ble_eq_true rfl⟩ hk9 (k_IQ fun M1 hq => ?_)
  obtain ⟨hX1, hz1, hor⟩ := hq
  have hM1 := hM.oz hz1
  refine j_istore C dL_law_1139 (by decide) ?_
  refine j_aload_n C dL_law_1141 rfl ?_
  refine j_aload_n C dL_law_1142 rfl ?_
  refine j_iload C dL_law_1143 rfl ?_
  refine j_iconst C dL_law_1145 (v := nI 1) (by decide) ?_
  refine j_iaddN C dL_law_1146 ?_
  refine j_sld C hX9 hbl hbA dL_law_1147 (by omega) (by omega) ?_
  refine j_aload_n C dL_law_1148 rfl ?_
  refine j_iload C dL_law_1149 rfl ?_
  refine j_iconst C dL_law_1151 (v := nI 2) (by decide) ?_
  refine j_iaddN C dL_law_1152 ?_
  refine j_sld C hX9 hbl hbA dL_law_1153 (by omega) (by omega) ?_
  refine j_callV C (hmo M1 hM1) dL_law_1154 rfl (by decide) (T := TX6) rfl gL_law_X6_painterOf rfl kd_X6_painterOf rfl rfl (Nat.le_of_ble_eq_true rfl) ⟨Nat.le_of_ble_eq_true rfl, Nat.le_of_ble_eq_true rfl⟩ hk9 (k_MQ fun bb M2 hq => ?_)
  obtain ⟨hbr, hM2, ho2, ht5⟩ := hq
  have hX2 := hX1.offM ho2
  refine j_istore C dL_law_1157 (by decide) ?_
  refine j_aload_n C dL_law_1159 rfl ?_
  refine j_callV C cm_thrown dL_law_1160 rfl (by decide) (T := TX6) rfl gL_law_X6_thrown rfl kd_X6_thrown rfl rfl (Nat.le_of_ble_eq_true rfl) ⟨Nat.le_of_ble_eq_true rfl, Nat.le_of_ble_eq_true rfl⟩ hk9 (k_I ?_)
  refine j_top C (nI t) ht5 ?_
  refine j_iload C dL_law_1163 rfl ?_
  refine j_icmp_eqN C dL_law_1165 (tgt := 1170) (by decide) (by omega) (by omega) (fun cq1165 => ?_) (fun cq1165 => absurd cq1165 (not_not_intro rfl))
  refine j_iload C dL_law_1170 rfl ?_
  refine j_if_neN C dL_law_1172 (tgt := 1187) (by decide) (by omega) (fun cq1172 => ?_) (fun cq1172 => ?_)
  · refine j_goto C dL_law_1187 (tgt := 1678) (by decide) ?_
    exact j_pick [0, 1, 2, 3, 4] (kn S2 M2 hO2 hX2 hM2)
  · refine j_aload_n C dL_law_1175 rfl ?_
    refine j_iconst C dL_law_1176 (v := nI 0) (by decide) ?_
    refine j_lald90 C dL_law_1177 (by decide) ?_
    refine j_iload C dL_law_1178 rfl ?_
    refine j_i2l C dL_law_1180 ?_
    refine j_lcmp C dL_law_1181 ?_
    refine j_top C (nI 0) (by rw [Off_out ho2, hor cq1172, hbr cq1172]; exact lg_self _) ?_
    refine j_if_eqN C dL_law_1182 (tgt := 1187) (by decide) (by omega) (fun cq1182 => ?_) (fun cq1182 => absurd cq1182 (not_not_intro rfl))
    refine j_goto C dL_law_1187 (tgt := 1678) (by decide) ?_
    exact j_pick [0, 1, 2, 3, 4] (kn S2 M2 hO2 hX2 hM2)

set_option maxHeartbeats 4000000 in
set_option maxRecDepth 100000 in
theorem lc_18 {G : GG} {p : Program} {l : Launch} {e : Env} {s : State} {m : MethodId} {below : List Frame} {meth : Method} {c : Code} {A : Nat → Prop} {Q : State → Prop} {k9 n9 : Nat} {M : MM} {b L : Nat} {xs : Nat → Int32} (C : Cx G p s m #[.ref b] meth c A cL_law 9 RL wsL_law) (hXw : XW A s) (hX9 : va_X b L xs s s.heap) (hbl : b < s.heap.size) (hbA : ¬ A b) (hl : l.stackTraces = false) (hL : L ≤ 2048) (hk9 : k9 + 1 ≤ room_1.cells ∧ n9 + 6 ≤ room_1.slots) {i : Nat} (hi : i + 4 ≤ L) {S : SS} (hO : OkS S) (hX : Xc M S) (hM : Xm M S) (kn : ∀ (S2 : SS) (M2 : MM), OkS S2 → Xc M2 S2 → Xm M2 S2 → J G p l e room_1 s m #[.ref b] below meth c A 9 Q (k9 + 1) (n9 + 6) 1678 [(0, .ref b), (1, .ref (G.2.2 72)), (2, .ref (G.2.2 84)), (3, .ref (G.2.2 90)), (4, .int (nI (i)))] [] M2) : J G p l e room_1 s m #[.ref b] below meth c A 9 Q k9 n9 1190 [(0, .ref b), (1, .ref (G.2.2 72)), (2, .ref (G.2.2 84)), (3, .ref (G.2.2 90)), (4, .int (nI (i)))] [] M := by
  obtain ⟨t, r, S2, ht, hO2, hcl, hmo⟩ := bo_apart (G := G) hl hO (a := xs (i + 1)) (b := xs (i + 2)) (d := xs (i + 3))
  refine j_aload_n C dL_law_1190 rfl ?_
  refine j_aload_n C dL_law_1191 rfl ?_
  refine j_iload C dL_law_1192 rfl ?_
  refine j_iconst C dL_law_1194 (v := nI 1) (by decide) ?_
  refine j_iaddN C dL_law_1195 ?_
  refine j_sld C hX9 hbl hbA dL_law_1196 (by omega) (by omega) ?_
  refine j_aload_n C dL_law_1197 rfl ?_
  refine j_iload C dL_law_1198 rfl ?_
  refine j_iconst C dL_law_1200 (v := nI 2) (by decide) ?_
  refine j_iaddN C dL_law_1201 ?_
  refine j_sld C hX9 hbl hbA dL_law_1202 (by omega) (by omega) ?_
  refine j_aload_n C dL_law_1203 rfl ?_
  refine j_iload C dL_law_1204 rfl ?_
  refine j_iconst C dL_law_1206 (v := nI 3) (by decide) ?_
  refine j_iaddN C dL_law_1207 ?_
  refine j_sld C hX9 hbl hbA dL_law_1208 (by omega) (by omega) ?_
  refine j_aload_n C dL_law_1209 rfl ?_
  refine j_callSW C hXw (hcl M hX) dL_law_1210 gL_law_L_apart rfl ks_L_apart rfl rfl (Nat.le_of_ble_eq_true rfl) ⟨Nat.le_of_ble_eq_true rfl, Nat.le_of_ble_eq_true rfl⟩ hk9 (k_IQ fun M1 hq => ?_)
  obtain ⟨hX1, hz1, hor⟩ := hq
  have hM1 := hM.oz hz1
  refine j_istore C dL_law_1213 (by decide) ?_
  refine j_aload_n C dL_law_1215 rfl ?_
  refine j_aload_n C dL_law_1216 rfl ?_
  refine j_iload C dL_law_1217 rfl ?_
  refine j_iconst C dL_law_1219 (v := nI 1) (by decide) ?_
  refine j_iaddN C dL_law_1220 ?_
  refine j_sld C hX9 hbl hbA dL_law_1221 (by omega) (by omega) ?_
  refine j_aload_n C dL_law_1222 rfl ?_
  refine j_iload C dL_law_1223 rfl ?_
  refine j_iconst C dL_law_1225 (v := nI 2) (by decide) ?_
  refine j_iaddN C dL_law_1226 ?_
  refine j_sld C hX9 hbl hbA dL_law_1227 (by omega) (by omega) ?_
  refine j_aload_n C dL_law_1228 rfl ?_
  refine j_iload C dL_law_1229 rfl ?_
  refine j_iconst C dL_law_1231 (v := nI 3) (by decide) ?_
  refine j_iaddN C dL_law_1232 ?_
  refine j_sld C hX9 hbl hbA dL_law_1233 (by omega) (by omega) ?_
  refine j_callV C (hmo M1 hM1) dL_law_1234 rfl (by decide) (T := TX6) rfl gL_law_X6_apart rfl kd_X6_apart rfl rfl (Nat.le_of_ble_eq_true rfl) ⟨Nat.le_of_ble_eq_true rfl, Nat.le_of_ble_eq_true rfl⟩ hk9 (k_MQ fun bb M2 hq => ?_)
  obtain ⟨hbr, hM2, ho2, ht5⟩ := hq
  have hX2 := hX1.offM ho2
  refine j_istore C dL_law_1237 (by decide) ?_
  refine j_aload_n C dL_law_1239 rfl ?_
  refine j_callV C cm_thrown dL_law_1240 rfl (by decide) (T := TX6) rfl gL_law_X6_thrown rfl kd_X6_thrown rfl rfl (Nat.le_of_ble_eq_true rfl) ⟨Nat.le_of_ble_eq_true rfl, Nat.le_of_ble_eq_true rfl⟩ hk9 (k_I ?_)
  refine j_top C (nI t) ht5 ?_
  refine j_iload C dL_law_1243 rfl ?_
  refine j_icmp_eqN C dL_law_1245 (tgt := 1250) (by decide) (by omega) (by omega) (fun cq1245 => ?_) (fun cq1245 => absurd cq1245 (not_not_intro rfl))
  refine j_iload C dL_law_1250 rfl ?_
  refine j_if_neN C dL_law_1252 (tgt := 1267) (by decide) (by omega) (fun cq1252 => ?_) (fun cq1252 => ?_)
  · refine j_goto C dL_law_1267 (tgt := 1678) (by decide) ?_
    exact j_pick [0, 1, 2, 3, 4] (kn S2 M2 hO2 hX2 hM2)
  · refine j_aload_n C dL_law_1255 rfl ?_
    refine j_iconst C dL_law_1256 (v := nI 0) (by decide) ?_
    refine j_lald90 C dL_law_1257 (by decide) ?_
    refine j_iload C dL_law_1258 rfl ?_
    refine j_i2l C dL_law_1260 ?_
    refine j_lcmp C dL_law_1261 ?_
    refine j_top C (nI 0) (by rw [Off_out ho2, hor cq1252, hbr cq1252]; exact lg_self _) ?_
    refine j_if_eqN C dL_law_1262 (tgt := 1267) (by decide) (by omega) (fun cq1262 => ?_) (fun cq1262 => absurd cq1262 (not_not_intro rfl))
    refine j_goto C dL_law_1267 (tgt := 1678) (by decide) ?_
    exact j_pick [0, 1, 2, 3, 4] (kn S2 M2 hO2 hX2 hM2)

set_option maxHeartbeats 4000000 in
set_option maxRecDepth 100000 in
theorem lc_19 {G : GG} {p : Program} {l : Launch} {e : Env} {s : State} {m : MethodId} {below : List Frame} {meth : Method} {c : Code} {A : Nat → Prop} {Q : State → Prop} {k9 n9 : Nat} {M : MM} {b L : Nat} {xs : Nat → Int32} (C : Cx G p s m #[.ref b] meth c A cL_law 9 RL wsL_law) (hXw : XW A s) (hX9 : va_X b L xs s s.heap) (hbl : b < s.heap.size) (hbA : ¬ A b) (hl : l.stackTraces = false) (hL : L ≤ 2048) (hk9 : k9 + 1 ≤ room_1.cells ∧ n9 + 6 ≤ room_1.slots) {i : Nat} (hi : i + 4 ≤ L) {S : SS} (hO : OkS S) (hX : Xc M S) (hM : Xm M S) (kn : ∀ (S2 : SS) (M2 : MM), OkS S2 → Xc M2 S2 → Xm M2 S2 → J G p l e room_1 s m #[.ref b] below meth c A 9 Q (k9 + 1) (n9 + 6) 1678 [(0, .ref b), (1, .ref (G.2.2 72)), (2, .ref (G.2.2 84)), (3, .ref (G.2.2 90)), (4, .int (nI (i)))] [] M2) : J G p l e room_1 s m #[.ref b] below meth c A 9 Q k9 n9 1270 [(0, .ref b), (1, .ref (G.2.2 72)), (2, .ref (G.2.2 84)), (3, .ref (G.2.2 90)), (4, .int (nI (i)))] [] M := by
  obtain ⟨t, r, S2, ht, hO2, hcl, hmo⟩ := bo_chartOf (G := G) hl hO (a := xs (i + 1)) (b := xs (i + 2))
  refine j_aload_n C dL_law_1270 rfl ?_
  refine j_aload_n C dL_law_1271 rfl ?_
  refine j_iload C dL_law_1272 rfl ?_
  refine j_iconst C dL_law_1274 (v := nI 1) (by decide) ?_
  refine j_iaddN C dL_law_1275 ?_
  refine j_sld C hX9 hbl hbA dL_law_1276 (by omega) (by omega) ?_
  refine j_aload_n C dL_law_1277 rfl ?_
  refine j_iload C dL_law_1278 rfl ?_
  refine j_iconst C dL_law_1280 (v := nI 2) (by decide) ?_
  refine j_iaddN C dL_law_1281 ?_
  refine j_sld C hX9 hbl hbA dL_law_1282 (by omega) (by omega) ?_
  refine j_aload_n C dL_law_1283 rfl ?_
  refine j_callSW C hXw (hcl M hX) dL_law_1284 gL_law_L_chartOf rfl ks_L_chartOf rfl rfl (Nat.le_of_ble_eq_true rfl) ⟨Nat.le_of_ble_eq_true rfl, Nat.le_of_ble_eq_true rfl⟩ hk9 (k_IQ fun M1 hq => ?_)
  obtain ⟨hX1, hz1, hor⟩ := hq
  have hM1 := hM.oz hz1
  refine j_istore C dL_law_1287 (by decide) ?_
  refine j_aload_n C dL_law_1289 rfl ?_
  refine j_aload_n C dL_law_1290 rfl ?_
  refine j_iload C dL_law_1291 rfl ?_
  refine j_iconst C dL_law_1293 (v := nI 1) (by decide) ?_
  refine j_iaddN C dL_law_1294 ?_
  refine j_sld C hX9 hbl hbA dL_law_1295 (by omega) (by omega) ?_
  refine j_aload_n C dL_law_1296 rfl ?_
  refine j_iload C dL_law_1297 rfl ?_
  refine j_iconst C dL_law_1299 (v := nI 2) (by decide) ?_
  refine j_iaddN C dL_law_1300 ?_
  refine j_sld C hX9 hbl hbA dL_law_1301 (by omega) (by omega) ?_
  refine j_callV C (hmo M1 hM1) dL_law_1302 rfl (by decide) (T := TX6) rfl gL_law_X6_chartOf rfl kd_X6_chartOf rfl rfl (Nat.le_of_ble_eq_true rfl) ⟨Nat.le_of_ble_eq_true rfl, Nat.le_of_ble_eq_true rfl⟩ hk9 (k_MQ fun bb M2 hq => ?_)
  obtain ⟨hbr, hM2, ho2, ht5⟩ := hq
  have hX2 := hX1.offM ho2
  refine j_istore C dL_law_1305 (by decide) ?_
  refine j_aload_n C dL_law_1307 rfl ?_
  refine j_callV C cm_thrown dL_law_1308 rfl (by decide) (T := TX6) rfl gL_law_X6_thrown rfl kd_X6_thrown rfl rfl (Nat.le_of_ble_eq_true rfl) ⟨Nat.le_of_ble_eq_true rfl, Nat.le_of_ble_eq_true rfl⟩ hk9 (k_I ?_)
  refine j_top C (nI t) ht5 ?_
  refine j_iload C dL_law_1311 rfl ?_
  refine j_icmp_eqN C dL_law_1313 (tgt := 1318) (by decide) (by omega) (by omega) (fun cq1313 => ?_) (fun cq1313 => absurd cq1313 (not_not_intro rfl))
  refine j_iload C dL_law_1318 rfl ?_
  refine j_if_neN C dL_law_1320 (tgt := 1335) (by decide) (by omega) (fun cq1320 => ?_) (fun cq1320 => ?_)
  · refine j_goto C dL_law_1335 (tgt := 1678) (by decide) ?_
    exact j_pick [0, 1, 2, 3, 4] (kn S2 M2 hO2 hX2 hM2)
  · refine j_aload_n C dL_law_1323 rfl ?_
    refine j_iconst C dL_law_1324 (v := nI 0) (by decide) ?_
    refine j_lald90 C dL_law_1325 (by decide) ?_
    refine j_iload C dL_law_1326 rfl ?_
    refine j_i2l C dL_law_1328 ?_
    refine j_lcmp C dL_law_1329 ?_
    refine j_top C (nI 0) (by rw [Off_out ho2, hor cq1320, hbr cq1320]; exact lg_self _) ?_
    refine j_if_eqN C dL_law_1330 (tgt := 1335) (by decide) (by omega) (fun cq1330 => ?_) (fun cq1330 => absurd cq1330 (not_not_intro rfl))
    refine j_goto C dL_law_1335 (tgt := 1678) (by decide) ?_
    exact j_pick [0, 1, 2, 3, 4] (kn S2 M2 hO2 hX2 hM2)

set_option maxHeartbeats 4000000 in
set_option maxRecDepth 100000 in
theorem lc_20 {G : GG} {p : Program} {l : Launch} {e : Env} {s : State} {m : MethodId} {below : List Frame} {meth : Method} {c : Code} {A : Nat → Prop} {Q : State → Prop} {k9 n9 : Nat} {M : MM} {b L : Nat} {xs : Nat → Int32} (C : Cx G p s m #[.ref b] meth c A cL_law 9 RL wsL_law) (hXw : XW A s) (hX9 : va_X b L xs s s.heap) (hbl : b < s.heap.size) (hbA : ¬ A b) (hl : l.stackTraces = false) (hL : L ≤ 2048) (hk9 : k9 + 1 ≤ room_1.cells ∧ n9 + 6 ≤ room_1.slots) {i : Nat} (hi : i + 4 ≤ L) {S : SS} (hO : OkS S) (hX : Xc M S) (hM : Xm M S) (kn : ∀ (S2 : SS) (M2 : MM), OkS S2 → Xc M2 S2 → Xm M2 S2 → J G p l e room_1 s m #[.ref b] below meth c A 9 Q (k9 + 1) (n9 + 6) 1678 [(0, .ref b), (1, .ref (G.2.2 72)), (2, .ref (G.2.2 84)), (3, .ref (G.2.2 90)), (4, .int (nI (i)))] [] M2) : J G p l e room_1 s m #[.ref b] below meth c A 9 Q k9 n9 1338 [(0, .ref b), (1, .ref (G.2.2 72)), (2, .ref (G.2.2 84)), (3, .ref (G.2.2 90)), (4, .int (nI (i)))] [] M := by
  obtain ⟨t, r, S2, ht, hO2, hcl, hmo⟩ := bo_count (G := G) hl hO (a := xs (i + 1))
  refine j_aload_n C dL_law_1338 rfl ?_
  refine j_aload_n C dL_law_1339 rfl ?_
  refine j_iload C dL_law_1340 rfl ?_
  refine j_iconst C dL_law_1342 (v := nI 1) (by decide) ?_
  refine j_iaddN C dL_law_1343 ?_
  refine j_sld C hX9 hbl hbA dL_law_1344 (by omega) (by omega) ?_
  refine j_aload_n C dL_law_1345 rfl ?_
  refine j_callSW C hXw (hcl M hX) dL_law_1346 gL_law_L_count rfl ks_L_count rfl rfl (Nat.le_of_ble_eq_true rfl) ⟨Nat.le_of_ble_eq_true rfl, Nat.le_of_ble_eq_true rfl⟩ hk9 (k_IQ fun M1 hq => ?_)
  obtain ⟨hX1, hz1, hor⟩ := hq
  have hM1 := hM.oz hz1
  refine j_istore C dL_law_1349 (by decide) ?_
  refine j_aload_n C dL_law_1351 rfl ?_
  refine j_aload_n C dL_law_1352 rfl ?_
  refine j_iload C dL_law_1353 rfl ?_
  refine j_iconst C dL_law_1355 (v := nI 1) (by decide) ?_
  refine j_iaddN C dL_law_1356 ?_
  refine j_sld C hX9 hbl hbA dL_law_1357 (by omega) (by omega) ?_
  refine j_callV C (hmo M1 hM1) dL_law_1358 rfl (by decide) (T := TX6) rfl gL_law_X6_count rfl kd_X6_count rfl rfl (Nat.le_of_ble_eq_true rfl) ⟨Nat.le_of_ble_eq_true rfl, Nat.le_of_ble_eq_true rfl⟩ hk9 (k_MQ fun bb M2 hq => ?_)
  obtain ⟨hbr, hM2, ho2, ht5⟩ := hq
  have hX2 := hX1.offM ho2
  refine j_istore C dL_law_1361 (by decide) ?_
  refine j_aload_n C dL_law_1363 rfl ?_
  refine j_callV C cm_thrown dL_law_1364 rfl (by decide) (T := TX6) rfl gL_law_X6_thrown rfl kd_X6_thrown rfl rfl (Nat.le_of_ble_eq_true rfl) ⟨Nat.le_of_ble_eq_true rfl, Nat.le_of_ble_eq_true rfl⟩ hk9 (k_I ?_)
  refine j_top C (nI t) ht5 ?_
  refine j_iload C dL_law_1367 rfl ?_
  refine j_icmp_eqN C dL_law_1369 (tgt := 1374) (by decide) (by omega) (by omega) (fun cq1369 => ?_) (fun cq1369 => absurd cq1369 (not_not_intro rfl))
  refine j_iload C dL_law_1374 rfl ?_
  refine j_if_neN C dL_law_1376 (tgt := 1391) (by decide) (by omega) (fun cq1376 => ?_) (fun cq1376 => ?_)
  · refine j_goto C dL_law_1391 (tgt := 1678) (by decide) ?_
    exact j_pick [0, 1, 2, 3, 4] (kn S2 M2 hO2 hX2 hM2)
  · refine j_aload_n C dL_law_1379 rfl ?_
    refine j_iconst C dL_law_1380 (v := nI 0) (by decide) ?_
    refine j_lald90 C dL_law_1381 (by decide) ?_
    refine j_iload C dL_law_1382 rfl ?_
    refine j_i2l C dL_law_1384 ?_
    refine j_lcmp C dL_law_1385 ?_
    refine j_top C (nI 0) (by rw [Off_out ho2, hor cq1376, hbr cq1376]; exact lg_self _) ?_
    refine j_if_eqN C dL_law_1386 (tgt := 1391) (by decide) (by omega) (fun cq1386 => ?_) (fun cq1386 => absurd cq1386 (not_not_intro rfl))
    refine j_goto C dL_law_1391 (tgt := 1678) (by decide) ?_
    exact j_pick [0, 1, 2, 3, 4] (kn S2 M2 hO2 hX2 hM2)

set_option maxHeartbeats 4000000 in
set_option maxRecDepth 100000 in
theorem lc_21 {G : GG} {p : Program} {l : Launch} {e : Env} {s : State} {m : MethodId} {below : List Frame} {meth : Method} {c : Code} {A : Nat → Prop} {Q : State → Prop} {k9 n9 : Nat} {M : MM} {b L : Nat} {xs : Nat → Int32} (C : Cx G p s m #[.ref b] meth c A cL_law 9 RL wsL_law) (hXw : XW A s) (hX9 : va_X b L xs s s.heap) (hbl : b < s.heap.size) (hbA : ¬ A b) (hl : l.stackTraces = false) (hL : L ≤ 2048) (hk9 : k9 + 1 ≤ room_1.cells ∧ n9 + 6 ≤ room_1.slots) {i : Nat} (hi : i + 4 ≤ L) {S : SS} (hO : OkS S) (hX : Xc M S) (hM : Xm M S) (kn : ∀ (S2 : SS) (M2 : MM), OkS S2 → Xc M2 S2 → Xm M2 S2 → J G p l e room_1 s m #[.ref b] below meth c A 9 Q (k9 + 1) (n9 + 6) 1678 [(0, .ref b), (1, .ref (G.2.2 72)), (2, .ref (G.2.2 84)), (3, .ref (G.2.2 90)), (4, .int (nI (i)))] [] M2) : J G p l e room_1 s m #[.ref b] below meth c A 9 Q k9 n9 1394 [(0, .ref b), (1, .ref (G.2.2 72)), (2, .ref (G.2.2 84)), (3, .ref (G.2.2 90)), (4, .int (nI (i)))] [] M := by
  obtain ⟨t, r, S2, ht, hO2, hcl, hmo⟩ := bo_fewest (G := G) hl hO (a := xs (i + 1)) (b := xs (i + 2))
  refine j_aload_n C dL_law_1394 rfl ?_
  refine j_aload_n C dL_law_1395 rfl ?_
  refine j_iload C dL_law_1396 rfl ?_
  refine j_iconst C dL_law_1398 (v := nI 1) (by decide) ?_
  refine j_iaddN C dL_law_1399 ?_
  refine j_sld C hX9 hbl hbA dL_law_1400 (by omega) (by omega) ?_
  refine j_aload_n C dL_law_1401 rfl ?_
  refine j_iload C dL_law_1402 rfl ?_
  refine j_iconst C dL_law_1404 (v := nI 2) (by decide) ?_
  refine j_iaddN C dL_law_1405 ?_
  refine j_sld C hX9 hbl hbA dL_law_1406 (by omega) (by omega) ?_
  refine j_aload_n C dL_law_1407 rfl ?_
  refine j_callSW C hXw (hcl M hX) dL_law_1408 gL_law_L_fewest rfl ks_L_fewest rfl rfl (Nat.le_of_ble_eq_true rfl) ⟨Nat.le_of_ble_eq_true rfl, Nat.le_of_ble_eq_true rfl⟩ hk9 (k_IQ fun M1 hq => ?_)
  obtain ⟨hX1, hz1, hor⟩ := hq
  have hM1 := hM.oz hz1
  refine j_istore C dL_law_1411 (by decide) ?_
  refine j_aload_n C dL_law_1413 rfl ?_
  refine j_aload_n C dL_law_1414 rfl ?_
  refine j_iload C dL_law_1415 rfl ?_
  refine j_iconst C dL_law_1417 (v := nI 1) (by decide) ?_
  refine j_iaddN C dL_law_1418 ?_
  refine j_sld C hX9 hbl hbA dL_law_1419 (by omega) (by omega) ?_
  refine j_aload_n C dL_law_1420 rfl ?_
  refine j_iload C dL_law_1421 rfl ?_
  refine j_iconst C dL_law_1423 (v := nI 2) (by decide) ?_
  refine j_iaddN C dL_law_1424 ?_
  refine j_sld C hX9 hbl hbA dL_law_1425 (by omega) (by omega) ?_
  refine j_callV C (hmo M1 hM1) dL_law_1426 rfl (by decide) (T := TX6) rfl gL_law_X6_fewest rfl kd_X6_fewest rfl rfl (Nat.le_of_ble_eq_true rfl) ⟨Nat.le_of_ble_eq_true rfl, Nat.le_of_ble_eq_true rfl⟩ hk9 (k_MQ fun bb M2 hq => ?_)
  obtain ⟨hbr, hM2, ho2, ht5⟩ := hq
  have hX2 := hX1.offM ho2
  refine j_istore C dL_law_1429 (by decide) ?_
  refine j_aload_n C dL_law_1431 rfl ?_
  refine j_callV C cm_thrown dL_law_1432 rfl (by decide) (T := TX6) rfl gL_law_X6_thrown rfl kd_X6_thrown rfl rfl (Nat.le_of_ble_eq_true rfl) ⟨Nat.le_of_ble_eq_true rfl, Nat.le_of_ble_eq_true rfl⟩ hk9 (k_I ?_)
  refine j_top C (nI t) ht5 ?_
  refine j_iload C dL_law_1435 rfl ?_
  refine j_icmp_eqN C dL_law_1437 (tgt := 1442) (by decide) (by omega) (by omega) (fun cq1437 => ?_) (fun cq1437 => absurd cq1437 (not_not_intro rfl))
  refine j_iload C dL_law_1442 rfl ?_
  refine j_if_neN C dL_law_1444 (tgt := 1459) (by decide) (by omega) (fun cq1444 => ?_) (fun cq1444 => ?_)
  · refine j_goto C dL_law_1459 (tgt := 1678) (by decide) ?_
    exact j_pick [0, 1, 2, 3, 4] (kn S2 M2 hO2 hX2 hM2)
  · refine j_aload_n C dL_law_1447 rfl ?_
    refine j_iconst C dL_law_1448 (v := nI 0) (by decide) ?_
    refine j_lald90 C dL_law_1449 (by decide) ?_
    refine j_iload C dL_law_1450 rfl ?_
    refine j_i2l C dL_law_1452 ?_
    refine j_lcmp C dL_law_1453 ?_
    refine j_top C (nI 0) (by rw [Off_out ho2, hor cq1444, hbr cq1444]; exact lg_self _) ?_
    refine j_if_eqN C dL_law_1454 (tgt := 1459) (by decide) (by omega) (fun cq1454 => ?_) (fun cq1454 => absurd cq1454 (not_not_intro rfl))
    refine j_goto C dL_law_1459 (tgt := 1678) (by decide) ?_
    exact j_pick [0, 1, 2, 3, 4] (kn S2 M2 hO2 hX2 hM2)

set_option maxHeartbeats 4000000 in
set_option maxRecDepth 100000 in
theorem lc_22 {G : GG} {p : Program} {l : Launch} {e : Env} {s : State} {m : MethodId} {below : List Frame} {meth : Method} {c : Code} {A : Nat → Prop} {Q : State → Prop} {k9 n9 : Nat} {M : MM} {b L : Nat} {xs : Nat → Int32} (C : Cx G p s m #[.ref b] meth c A cL_law 9 RL wsL_law) (hXw : XW A s) (hX9 : va_X b L xs s s.heap) (hbl : b < s.heap.size) (hbA : ¬ A b) (hl : l.stackTraces = false) (hL : L ≤ 2048) (hk9 : k9 + 1 ≤ room_1.cells ∧ n9 + 6 ≤ room_1.slots) {i : Nat} (hi : i + 4 ≤ L) {S : SS} (hO : OkS S) (hX : Xc M S) (hM : Xm M S) (kn : ∀ (S2 : SS) (M2 : MM), OkS S2 → Xc M2 S2 → Xm M2 S2 → J G p l e room_1 s m #[.ref b] below meth c A 9 Q (k9 + 1) (n9 + 6) 1678 [(0, .ref b), (1, .ref (G.2.2 72)), (2, .ref (G.2.2 84)), (3, .ref (G.2.2 90)), (4, .int (nI (i)))] [] M2) : J G p l e room_1 s m #[.ref b] below meth c A 9 Q k9 n9 1462 [(0, .ref b), (1, .ref (G.2.2 72)), (2, .ref (G.2.2 84)), (3, .ref (G.2.2 90)), (4, .int (nI (i)))] [] M := by
  obtain ⟨t, r, S2, ht, hO2, hcl, hmo⟩ := bo_ifBorrowed (G := G) hl hO (a := xs (i + 1)) (b := xs (i + 2))
  refine j_aload_n C dL_law_1462 rfl ?_
  refine j_aload_n C dL_law_1463 rfl ?_
  refine j_iload C dL_law_1464 rfl ?_
  refine j_iconst C dL_law_1466 (v := nI 1) (by decide) ?_
  refine j_iaddN C dL_law_1467 ?_
  refine j_sld C hX9 hbl hbA dL_law_1468 (by omega) (by omega) ?_
  refine j_aload_n C dL_law_1469 rfl ?_
  refine j_iload C dL_law_1470 rfl ?_
  refine j_iconst C dL_law_1472 (v := nI 2) (by decide) ?_
  refine j_iaddN C dL_law_1473 ?_
  refine j_sld C hX9 hbl hbA dL_law_1474 (by omega) (by omega) ?_
  refine j_aload_n C dL_law_1475 rfl ?_
  refine j_callSW C hXw (hcl M hX) dL_law_1476 gL_law_L_ifBorrowed rfl ks_L_ifBorrowed rfl rfl (Nat.le_of_ble_eq_true rfl) ⟨Nat.le_of_ble_eq_true rfl, Nat.le_of_ble_eq_true rfl⟩ hk9 (k_IQ fun M1 hq => ?_)
  obtain ⟨hX1, hz1, hor⟩ := hq
  have hM1 := hM.oz hz1
  refine j_istore C dL_law_1479 (by decide) ?_
  refine j_aload_n C dL_law_1481 rfl ?_
  refine j_aload_n C dL_law_1482 rfl ?_
  refine j_iload C dL_law_1483 rfl ?_
  refine j_iconst C dL_law_1485 (v := nI 1) (by decide) ?_
  refine j_iaddN C dL_law_1486 ?_
  refine j_sld C hX9 hbl hbA dL_law_1487 (by omega) (by omega) ?_
  refine j_aload_n C dL_law_1488 rfl ?_
  refine j_iload C dL_law_1489 rfl ?_
  refine j_iconst C dL_law_1491 (v := nI 2) (by decide) ?_
  refine j_iaddN C dL_law_1492 ?_
  refine j_sld C hX9 hbl hbA dL_law_1493 (by omega) (by omega) ?_
  refine j_callV C (hmo M1 hM1) dL_law_1494 rfl (by decide) (T := TX6) rfl gL_law_X6_ifBorrowed rfl kd_X6_ifBorrowed rfl rfl (Nat.le_of_ble_eq_true rfl) ⟨Nat.le_of_ble_eq_true rfl, Nat.le_of_ble_eq_true rfl⟩ hk9 (k_MQ fun bb M2 hq => ?_)
  obtain ⟨hbr, hM2, ho2, ht5⟩ := hq
  have hX2 := hX1.offM ho2
  refine j_istore C dL_law_1497 (by decide) ?_
  refine j_aload_n C dL_law_1499 rfl ?_
  refine j_callV C cm_thrown dL_law_1500 rfl (by decide) (T := TX6) rfl gL_law_X6_thrown rfl kd_X6_thrown rfl rfl (Nat.le_of_ble_eq_true rfl) ⟨Nat.le_of_ble_eq_true rfl, Nat.le_of_ble_eq_true rfl⟩ hk9 (k_I ?_)
  refine j_top C (nI t) ht5 ?_
  refine j_iload C dL_law_1503 rfl ?_
  refine j_icmp_eqN C dL_law_1505 (tgt := 1510) (by decide) (by omega) (by omega) (fun cq1505 => ?_) (fun cq1505 => absurd cq1505 (not_not_intro rfl))
  refine j_iload C dL_law_1510 rfl ?_
  refine j_if_neN C dL_law_1512 (tgt := 1527) (by decide) (by omega) (fun cq1512 => ?_) (fun cq1512 => ?_)
  · refine j_goto C dL_law_1527 (tgt := 1678) (by decide) ?_
    exact j_pick [0, 1, 2, 3, 4] (kn S2 M2 hO2 hX2 hM2)
  · refine j_aload_n C dL_law_1515 rfl ?_
    refine j_iconst C dL_law_1516 (v := nI 0) (by decide) ?_
    refine j_lald90 C dL_law_1517 (by decide) ?_
    refine j_iload C dL_law_1518 rfl ?_
    refine j_i2l C dL_law_1520 ?_
    refine j_lcmp C dL_law_1521 ?_
    refine j_top C (nI 0) (by rw [Off_out ho2, hor cq1512, hbr cq1512]; exact lg_self _) ?_
    refine j_if_eqN C dL_law_1522 (tgt := 1527) (by decide) (by omega) (fun cq1522 => ?_) (fun cq1522 => absurd cq1522 (not_not_intro rfl))
    refine j_goto C dL_law_1527 (tgt := 1678) (by decide) ?_
    exact j_pick [0, 1, 2, 3, 4] (kn S2 M2 hO2 hX2 hM2)

set_option maxHeartbeats 4000000 in
set_option maxRecDepth 100000 in
theorem lc_23 {G : GG} {p : Program} {l : Launch} {e : Env} {s : State} {m : MethodId} {below : List Frame} {meth : Method} {c : Code} {A : Nat → Prop} {Q : State → Prop} {k9 n9 : Nat} {M : MM} {b L : Nat} {xs : Nat → Int32} (C : Cx G p s m #[.ref b] meth c A cL_law 9 RL wsL_law) (hXw : XW A s) (hX9 : va_X b L xs s s.heap) (hbl : b < s.heap.size) (hbA : ¬ A b) (hl : l.stackTraces = false) (hL : L ≤ 2048) (hk9 : k9 + 1 ≤ room_1.cells ∧ n9 + 6 ≤ room_1.slots) {i : Nat} (hi : i + 4 ≤ L) {S : SS} (hO : OkS S) (hX : Xc M S) (hM : Xm M S) (kn : ∀ (S2 : SS) (M2 : MM), OkS S2 → Xc M2 S2 → Xm M2 S2 → J G p l e room_1 s m #[.ref b] below meth c A 9 Q (k9 + 1) (n9 + 6) 1678 [(0, .ref b), (1, .ref (G.2.2 72)), (2, .ref (G.2.2 84)), (3, .ref (G.2.2 90)), (4, .int (nI (i)))] [] M2) : J G p l e room_1 s m #[.ref b] below meth c A 9 Q k9 n9 1530 [(0, .ref b), (1, .ref (G.2.2 72)), (2, .ref (G.2.2 84)), (3, .ref (G.2.2 90)), (4, .int (nI (i)))] [] M := by
  obtain ⟨t, r, S2, ht, hO2, hcl, hmo⟩ := bo_leastChange (G := G) hl hO (a := xs (i + 1)) (b := xs (i + 2)) (d := xs (i + 3))
  refine j_aload_n C dL_law_1530 rfl ?_
  refine j_aload_n C dL_law_1531 rfl ?_
  refine j_iload C dL_law_1532 rfl ?_
  refine j_iconst C dL_law_1534 (v := nI 1) (by decide) ?_
  refine j_iaddN C dL_law_1535 ?_
  refine j_sld C hX9 hbl hbA dL_law_1536 (by omega) (by omega) ?_
  refine j_aload_n C dL_law_1537 rfl ?_
  refine j_iload C dL_law_1538 rfl ?_
  refine j_iconst C dL_law_1540 (v := nI 2) (by decide) ?_
  refine j_iaddN C dL_law_1541 ?_
  refine j_sld C hX9 hbl hbA dL_law_1542 (by omega) (by omega) ?_
  refine j_aload_n C dL_law_1543 rfl ?_
  refine j_iload C dL_law_1544 rfl ?_
  refine j_iconst C dL_law_1546 (v := nI 3) (by decide) ?_
  refine j_iaddN C dL_law_1547 ?_
  refine j_sld C hX9 hbl hbA dL_law_1548 (by omega) (by omega) ?_
  refine j_aload_n C dL_law_1549 rfl ?_
  refine j_callSW C hXw (hcl M hX) dL_law_1550 gL_law_L_leastChange rfl ks_L_leastChange rfl rfl (Nat.le_of_ble_eq_true rfl) ⟨Nat.le_of_ble_eq_true rfl, Nat.le_of_ble_eq_true rfl⟩ hk9 (k_IQ fun M1 hq => ?_)
  obtain ⟨hX1, hz1, hor⟩ := hq
  have hM1 := hM.oz hz1
  refine j_istore C dL_law_1553 (by decide) ?_
  refine j_aload_n C dL_law_1555 rfl ?_
  refine j_aload_n C dL_law_1556 rfl ?_
  refine j_iload C dL_law_1557 rfl ?_
  refine j_iconst C dL_law_1559 (v := nI 1) (by decide) ?_
  refine j_iaddN C dL_law_1560 ?_
  refine j_sld C hX9 hbl hbA dL_law_1561 (by omega) (by omega) ?_
  refine j_aload_n C dL_law_1562 rfl ?_
  refine j_iload C dL_law_1563 rfl ?_
  refine j_iconst C dL_law_1565 (v := nI 2) (by decide) ?_
  refine j_iaddN C dL_law_1566 ?_
  refine j_sld C hX9 hbl hbA dL_law_1567 (by omega) (by omega) ?_
  refine j_aload_n C dL_law_1568 rfl ?_
  refine j_iload C dL_law_1569 rfl ?_
  refine j_iconst C dL_law_1571 (v := nI 3) (by decide) ?_
  refine j_iaddN C dL_law_1572 ?_
  refine j_sld C hX9 hbl hbA dL_law_1573 (by omega) (by omega) ?_
  refine j_callV C (hmo M1 hM1) dL_law_1574 rfl (by decide) (T := TX6) rfl gL_law_X6_leastChange rfl kd_X6_leastChange rfl rfl (Nat.le_of_ble_eq_true rfl) ⟨Nat.le_of_ble_eq_true rfl, Nat.le_of_ble_eq_true rfl⟩ hk9 (k_MQ fun bb M2 hq => ?_)
  obtain ⟨hbr, hM2, ho2, ht5⟩ := hq
  have hX2 := hX1.offM ho2
  refine j_istore C dL_law_1577 (by decide) ?_
  refine j_aload_n C dL_law_1579 rfl ?_
  refine j_callV C cm_thrown dL_law_1580 rfl (by decide) (T := TX6) rfl gL_law_X6_thrown rfl kd_X6_thrown rfl rfl (Nat.le_of_ble_eq_true rfl) ⟨Nat.le_of_ble_eq_true rfl, Nat.le_of_ble_eq_true rfl⟩ hk9 (k_I ?_)
  refine j_top C (nI t) ht5 ?_
  refine j_iload C dL_law_1583 rfl ?_
  refine j_icmp_eqN C dL_law_1585 (tgt := 1590) (by decide) (by omega) (by omega) (fun cq1585 => ?_) (fun cq1585 => absurd cq1585 (not_not_intro rfl))
  refine j_iload C dL_law_1590 rfl ?_
  refine j_if_neN C dL_law_1592 (tgt := 1607) (by decide) (by omega) (fun cq1592 => ?_) (fun cq1592 => ?_)
  · refine j_goto C dL_law_1607 (tgt := 1678) (by decide) ?_
    exact j_pick [0, 1, 2, 3, 4] (kn S2 M2 hO2 hX2 hM2)
  · refine j_aload_n C dL_law_1595 rfl ?_
    refine j_iconst C dL_law_1596 (v := nI 0) (by decide) ?_
    refine j_lald90 C dL_law_1597 (by decide) ?_
    refine j_iload C dL_law_1598 rfl ?_
    refine j_i2l C dL_law_1600 ?_
    refine j_lcmp C dL_law_1601 ?_
    refine j_top C (nI 0) (by rw [Off_out ho2, hor cq1592, hbr cq1592]; exact lg_self _) ?_
    refine j_if_eqN C dL_law_1602 (tgt := 1607) (by decide) (by omega) (fun cq1602 => ?_) (fun cq1602 => absurd cq1602 (not_not_intro rfl))
    refine j_goto C dL_law_1607 (tgt := 1678) (by decide) ?_
    exact j_pick [0, 1, 2, 3, 4] (kn S2 M2 hO2 hX2 hM2)

set_option maxHeartbeats 4000000 in
set_option maxRecDepth 100000 in
theorem lc_24 {G : GG} {p : Program} {l : Launch} {e : Env} {s : State} {m : MethodId} {below : List Frame} {meth : Method} {c : Code} {A : Nat → Prop} {Q : State → Prop} {k9 n9 : Nat} {M : MM} {b L : Nat} {xs : Nat → Int32} (C : Cx G p s m #[.ref b] meth c A cL_law 9 RL wsL_law) (hXw : XW A s) (hX9 : va_X b L xs s s.heap) (hbl : b < s.heap.size) (hbA : ¬ A b) (hl : l.stackTraces = false) (hL : L ≤ 2048) (hk9 : k9 + 1 ≤ room_1.cells ∧ n9 + 6 ≤ room_1.slots) {i : Nat} (hi : i + 4 ≤ L) {S : SS} (hO : OkS S) (hX : Xc M S) (hM : Xm M S) (kn : ∀ (S2 : SS) (M2 : MM), OkS S2 → Xc M2 S2 → Xm M2 S2 → J G p l e room_1 s m #[.ref b] below meth c A 9 Q (k9 + 1) (n9 + 6) 1678 [(0, .ref b), (1, .ref (G.2.2 72)), (2, .ref (G.2.2 84)), (3, .ref (G.2.2 90)), (4, .int (nI (i)))] [] M2) : J G p l e room_1 s m #[.ref b] below meth c A 9 Q k9 n9 1610 [(0, .ref b), (1, .ref (G.2.2 72)), (2, .ref (G.2.2 84)), (3, .ref (G.2.2 90)), (4, .int (nI (i)))] [] M := by
  refine j_widen (k := k9 + 1) (n := n9 + 6) (Nat.le_succ _) (Nat.le_add_right _ _) ?_
  refine j_aload_n C dL_law_1610 rfl ?_
  refine j_callV C (ct_bestPainter hX hO) dL_law_1611 rfl (by decide) (T := TX5) rfl gL_law_X5_bestPainter rfl kd_X5_bestPainter rfl rfl (Nat.le_of_ble_eq_true rfl) ⟨Nat.le_of_ble_eq_true rfl, Nat.le_of_ble_eq_true rfl⟩ hk9 (k_I ?_)
  refine j_aload_n C dL_law_1614 rfl ?_
  refine j_callV C (cm_bestPainter hM hO) dL_law_1615 rfl (by decide) (T := TX6) rfl gL_law_X6_bestPainter rfl kd_X6_bestPainter rfl rfl (Nat.le_of_ble_eq_true rfl) ⟨Nat.le_of_ble_eq_true rfl, Nat.le_of_ble_eq_true rfl⟩ hk9 (k_IQ fun M2 hq => ?_)
  obtain ⟨hM2, ho2, -⟩ := hq
  refine j_icmp_eq C dL_law_1618 (tgt := 1678) (by decide) (fun cq1618 => ?_) (fun cq1618 => absurd cq1618 (not_not_intro rfl))
  exact j_pick [0, 1, 2, 3, 4] (kn (S) M2 hO (hX.offM ho2) hM2)

set_option maxHeartbeats 4000000 in
set_option maxRecDepth 100000 in
theorem lc_25 {G : GG} {p : Program} {l : Launch} {e : Env} {s : State} {m : MethodId} {below : List Frame} {meth : Method} {c : Code} {A : Nat → Prop} {Q : State → Prop} {k9 n9 : Nat} {M : MM} {b L : Nat} {xs : Nat → Int32} (C : Cx G p s m #[.ref b] meth c A cL_law 9 RL wsL_law) (hXw : XW A s) (hX9 : va_X b L xs s s.heap) (hbl : b < s.heap.size) (hbA : ¬ A b) (hl : l.stackTraces = false) (hL : L ≤ 2048) (hk9 : k9 + 1 ≤ room_1.cells ∧ n9 + 6 ≤ room_1.slots) {i : Nat} (hi : i + 4 ≤ L) {S : SS} (hO : OkS S) (hX : Xc M S) (hM : Xm M S) (kn : ∀ (S2 : SS) (M2 : MM), OkS S2 → Xc M2 S2 → Xm M2 S2 → J G p l e room_1 s m #[.ref b] below meth c A 9 Q (k9 + 1) (n9 + 6) 1678 [(0, .ref b), (1, .ref (G.2.2 72)), (2, .ref (G.2.2 84)), (3, .ref (G.2.2 90)), (4, .int (nI (i)))] [] M2) : J G p l e room_1 s m #[.ref b] below meth c A 9 Q k9 n9 1623 [(0, .ref b), (1, .ref (G.2.2 72)), (2, .ref (G.2.2 84)), (3, .ref (G.2.2 90)), (4, .int (nI (i)))] [] M := by
  refine j_widen (k := k9 + 1) (n := n9 + 6) (Nat.le_succ _) (Nat.le_add_right _ _) ?_
  refine j_aload_n C dL_law_1623 rfl ?_
  refine j_callV C (ct_apartShare hX hO) dL_law_1624 rfl (by decide) (T := TX5) rfl gL_law_X5_apartShare rfl kd_X5_apartShare rfl rfl (Nat.le_of_ble_eq_true rfl) ⟨Nat.le_of_ble_eq_true rfl, Nat.le_of_ble_eq_true rfl⟩ hk9 (k_D ?_)
  refine j_dstore C dL_law_1627 (by decide) ?_
  refine j_aload_n C dL_law_1629 rfl ?_
  refine j_callV C (cm_apartShare hM hO) dL_law_1630 rfl (by decide) (T := TX6) rfl gL_law_X6_apartShare rfl kd_X6_apartShare rfl rfl (Nat.le_of_ble_eq_true rfl) ⟨Nat.le_of_ble_eq_true rfl, Nat.le_of_ble_eq_true rfl⟩ hk9 (k_DQ fun M2 hq => ?_)
  obtain ⟨hM2, ho2, -⟩ := hq
  refine j_dstore C dL_law_1633 (by decide) ?_
  refine j_dload C dL_law_1635 rfl ?_
  refine j_dload C dL_law_1637 rfl ?_
  refine j_dcmp C dL_law_1639 ?_
  refine j_if_eq C dL_law_1640 (tgt := 1661) (by decide) (fun cq1640 => ?_) (fun cq1640 => absurd cq1640 (not_not_intro (sh_eq (Nat.lt_succ_of_le (sumP_112 S.1)))))
  refine j_goto C dL_law_1661 (tgt := 1678) (by decide) ?_
  exact j_pick [0, 1, 2, 3, 4] (kn (S) M2 hO (hX.offM ho2) hM2)

set_option maxHeartbeats 4000000 in
set_option maxRecDepth 100000 in
theorem lc_26 {G : GG} {p : Program} {l : Launch} {e : Env} {s : State} {m : MethodId} {below : List Frame} {meth : Method} {c : Code} {A : Nat → Prop} {Q : State → Prop} {k9 n9 : Nat} {M : MM} {b L : Nat} {xs : Nat → Int32} (C : Cx G p s m #[.ref b] meth c A cL_law 9 RL wsL_law) (hXw : XW A s) (hX9 : va_X b L xs s s.heap) (hbl : b < s.heap.size) (hbA : ¬ A b) (hl : l.stackTraces = false) (hL : L ≤ 2048) (hk9 : k9 + 1 ≤ room_1.cells ∧ n9 + 6 ≤ room_1.slots) {i : Nat} (hi : i + 4 ≤ L) {S : SS} (hO : OkS S) (hX : Xc M S) (hM : Xm M S) (kn : ∀ (S2 : SS) (M2 : MM), OkS S2 → Xc M2 S2 → Xm M2 S2 → J G p l e room_1 s m #[.ref b] below meth c A 9 Q (k9 + 1) (n9 + 6) 1678 [(0, .ref b), (1, .ref (G.2.2 72)), (2, .ref (G.2.2 84)), (3, .ref (G.2.2 90)), (4, .int (nI (i)))] [] M2) : J G p l e room_1 s m #[.ref b] below meth c A 9 Q k9 n9 1664 [(0, .ref b), (1, .ref (G.2.2 72)), (2, .ref (G.2.2 84)), (3, .ref (G.2.2 90)), (4, .int (nI (i)))] [] M := by
  refine j_widen (k := k9 + 1) (n := n9 + 6) (Nat.le_succ _) (Nat.le_add_right _ _) ?_
  have hcf : ∀ p, ∃ k, Chi (ap S.1 p) (fun _ => true) k := fun p => Chi.ex (ap_self S.1 p) (fun _ => true)
  obtain ⟨cf, hcf⟩ : ∃ cf : Nat → Nat, ∀ p, p < 4 → Chi (ap S.1 p) (fun _ => true) (cf p) := ⟨fun p => Classical.choose (hcf p), fun p _ => Classical.choose_spec (hcf p)⟩
  obtain ⟨az, haz⟩ : ∃ az : Nat → Nat × Nat, ∀ p, p < 4 → az p = nst S.1 p 0 7 1000 := ⟨_, fun _ _ => rfl⟩
  obtain ⟨bz, hbz⟩ : ∃ bz : Nat → Nat × Nat, ∀ p, p < 4 → bz p = nst S.1 p 7 0 1000 := ⟨_, fun _ _ => rfl⟩
  refine j_aload_n C dL_law_1664 rfl ?_
  refine j_callV C (ct_digest hX hO hcf haz hbz) dL_law_1665 rfl (by decide) (T := TX5) rfl gL_law_X5_digest rfl kd_X5_digest rfl rfl (Nat.le_of_ble_eq_true rfl) ⟨Nat.le_of_ble_eq_true rfl, Nat.le_of_ble_eq_true rfl⟩ hk9 (k_LQ fun M1 hq => ?_)
  obtain ⟨hX1, hz1⟩ := hq
  have hM1 := hM.oz hz1.oz
  refine j_aload_n C dL_law_1668 rfl ?_
  refine j_callV C (cm_digest hM1 hO hcf haz hbz) dL_law_1669 rfl (by decide) (T := TX6) rfl gL_law_X6_digest rfl kd_X6_digest rfl rfl (Nat.le_of_ble_eq_true rfl) ⟨Nat.le_of_ble_eq_true rfl, Nat.le_of_ble_eq_true rfl⟩ hk9 (k_LQ fun M2 hq => ?_)
  obtain ⟨hM2, ho2⟩ := hq
  refine j_lcmp C dL_law_1672 ?_
  refine j_top C (nI 0) (lg_self _) ?_
  refine j_if_eqN C dL_law_1673 (tgt := 1678) (by decide) (by omega) (fun cq1673 => ?_) (fun cq1673 => absurd cq1673 (not_not_intro rfl))
  exact j_pick [0, 1, 2, 3, 4] (kn (S) M2 hO (hX1.offM ho2) hM2)

set_option maxHeartbeats 4000000 in
set_option maxRecDepth 100000 in
theorem law_loop {G : GG} {p : Program} {l : Launch} {e : Env} {s : State} {m : MethodId} {below : List Frame} {meth : Method} {c : Code} {A : Nat → Prop} {Q : State → Prop} {b L : Nat} {xs : Nat → Int32} (C : Cx G p s m #[.ref b] meth c A cL_law 9 RL wsL_law) (hXw : XW A s) (hX9 : va_X b L xs s s.heap) (hbl : b < s.heap.size) (hbA : ¬ A b) (hl : l.stackTraces = false) (hL : L ≤ 2048)
    (kend : ∀ (H : Heap) (locs : List Loc) (ls : Array Slot), va_S A s.heap H locs → W p l e room_1 s m #[.ref b] below meth c H locs 601024 7293034 Q (F0 m 1685 ls [.int 1]))
    : ∀ n, n ≤ 513 → ∀ (S : SS) (M : MM), OkS S → Xc M S → Xm M S → J G p l e room_1 s m #[.ref b] below meth c A 9 Q (100 + n) (3000 + 6 * n) 23 [(0, .ref b), (1, .ref (G.2.2 72)), (2, .ref (G.2.2 84)), (3, .ref (G.2.2 90)), (4, .int (nI (4 * n)))] [] M := by
  refine dnto ?_
  intro n hn ih S M hO hX hM
  refine j_iload C dL_law_23 rfl ?_
  refine j_aload_n C dL_law_25 rfl ?_
  refine j_slen C hX9 hbl hbA dL_law_26 ?_
  refine j_iconst C dL_law_27 (v := nI 4) (by decide) ?_
  refine j_isub C dL_law_28 ?_
  refine j_icmp_gt C dL_law_29 (tgt := 1684) (by decide) (fun _ => ?_) (fun cq29 => ?_)
  · refine j_iconst C dL_law_1684 (v := 1) (by decide) ?_
    intro H locs ls hP hS hv
    exact W.widen (by omega) (by omega) (kend H locs ls hS)
  · have hi : 4 * n + 4 ≤ L := law_in hL (by omega) cq29
    have hk9 : 100 + n + 1 ≤ room_1.cells ∧ 3000 + 6 * n + 6 ≤ room_1.slots := ⟨by show 100 + n + 1 ≤ 601024; omega, by show 3000 + 6 * n + 6 ≤ 7293034; omega⟩
    have kn : ∀ (S2 : SS) (M2 : MM), OkS S2 → Xc M2 S2 → Xm M2 S2 → J G p l e room_1 s m #[.ref b] below meth c A 9 Q (100 + n + 1) (3000 + 6 * n + 6) 1678 [(0, .ref b), (1, .ref (G.2.2 72)), (2, .ref (G.2.2 84)), (3, .ref (G.2.2 90)), (4, .int (nI (4 * n)))] [] M2 := by
      intro S2 M2 hO2 hX2 hM2
      refine j_iincN C dL_law_1678 rfl (by decide) ?_
      refine j_goto C dL_law_1681 (tgt := 23) (by decide) ?_
      have z := ih (by omega) S2 M2 hO2 hX2 hM2
      rw [show 4 * (n + 1) = 4 * n + 4 by omega, show 6 * (n + 1) = 6 * n + 6 by omega] at z
      exact z
    refine j_aload_n C dL_law_32 rfl ?_
    refine j_iload C dL_law_33 rfl ?_
    refine j_sld C hX9 hbl hbA dL_law_35 (by omega) (by omega) ?_
    refine j_bipush C dL_law_36 (v := nI 31) (by decide) ?_
    refine j_iand C dL_law_38 ?_
    obtain ⟨j, hj, hje⟩ := pk_andE (xs (4 * n)) (m := nI 31) 5 (by decide)
    refine j_top C (nI j) hje ?_
    rcases Nat.lt_or_ge j 27 with h27 | h27
    · have hj2 : j = 0 ∨ j = 1 ∨ j = 2 ∨ j = 3 ∨ j = 4 ∨ j = 5 ∨ j = 6 ∨ j = 7 ∨ j = 8 ∨ j = 9 ∨ j = 10 ∨ j = 11 ∨ j = 12 ∨ j = 13 ∨ j = 14 ∨ j = 15 ∨ j = 16 ∨ j = 17 ∨ j = 18 ∨ j = 19 ∨ j = 20 ∨ j = 21 ∨ j = 22 ∨ j = 23 ∨ j = 24 ∨ j = 25 ∨ j = 26 := by omega
      rcases hj2 with rfl | rfl | rfl | rfl | rfl | rfl | rfl | rfl | rfl | rfl | rfl | rfl | rfl | rfl | rfl | rfl | rfl | rfl | rfl | rfl | rfl | rfl | rfl | rfl | rfl | rfl | rfl
      · exact j_tableIn C dL_law_39 (off := 121) (tgt := 160) (by decide) (by decide) (by decide) (by decide) (lc_0 C hXw hX9 hbl hbA hl hL hk9 hi hO hX hM kn)
      · exact j_tableIn C dL_law_39 (off := 201) (tgt := 240) (by decide) (by decide) (by decide) (by decide) (lc_1 C hXw hX9 hbl hbA hl hL hk9 hi hO hX hM kn)
      · exact j_tableIn C dL_law_39 (off := 281) (tgt := 320) (by decide) (by decide) (by decide) (by decide) (lc_2 C hXw hX9 hbl hbA hl hL hk9 hi hO hX hM kn)
      · exact j_tableIn C dL_law_39 (off := 349) (tgt := 388) (by decide) (by decide) (by decide) (by decide) (lc_3 C hXw hX9 hbl hbA hl hL hk9 hi hO hX hM kn)
      · exact j_tableIn C dL_law_39 (off := 417) (tgt := 456) (by decide) (by decide) (by decide) (by decide) (lc_4 C hXw hX9 hbl hbA hl hL hk9 hi hO hX hM kn)
      · exact j_tableIn C dL_law_39 (off := 473) (tgt := 512) (by decide) (by decide) (by decide) (by decide) (lc_5 C hXw hX9 hbl hbA hl hL hk9 hi hO hX hM kn)
      · exact j_tableIn C dL_law_39 (off := 541) (tgt := 580) (by decide) (by decide) (by decide) (by decide) (lc_6 C hXw hX9 hbl hbA hl hL hk9 hi hO hX hM kn)
      · exact j_tableIn C dL_law_39 (off := 597) (tgt := 636) (by decide) (by decide) (by decide) (by decide) (lc_7 C hXw hX9 hbl hbA hl hL hk9 hi hO hX hM kn)
      · exact j_tableIn C dL_law_39 (off := 665) (tgt := 704) (by decide) (by decide) (by decide) (by decide) (lc_8 C hXw hX9 hbl hbA hl hL hk9 hi hO hX hM kn)
      · exact j_tableIn C dL_law_39 (off := 721) (tgt := 760) (by decide) (by decide) (by decide) (by decide) (lc_9 C hXw hX9 hbl hbA hl hL hk9 hi hO hX hM kn)
      · exact j_tableIn C dL_law_39 (off := 734) (tgt := 773) (by decide) (by decide) (by decide) (by decide) (lc_10 C hXw hX9 hbl hbA hl hL hk9 hi hO hX hM kn)
      · exact j_tableIn C dL_law_39 (off := 747) (tgt := 786) (by decide) (by decide) (by decide) (by decide) (lc_11 C hXw hX9 hbl hbA hl hL hk9 hi hO hX hM kn)
      · exact j_tableIn C dL_law_39 (off := 791) (tgt := 830) (by decide) (by decide) (by decide) (by decide) (lc_12 C hXw hX9 hbl hbA hl hL hk9 hi hO hX hM kn)
      · exact j_tableIn C dL_law_39 (off := 847) (tgt := 886) (by decide) (by decide) (by decide) (by decide) (lc_13 C hXw hX9 hbl hbA hl hL hk9 hi hO hX hM kn)
      · exact j_tableIn C dL_law_39 (off := 903) (tgt := 942) (by decide) (by decide) (by decide) (by decide) (lc_14 C hXw hX9 hbl hbA hl hL hk9 hi hO hX hM kn)
      · exact j_tableIn C dL_law_39 (off := 947) (tgt := 986) (by decide) (by decide) (by decide) (by decide) (lc_15 C hXw hX9 hbl hbA hl hL hk9 hi hO hX hM kn)
      · exact j_tableIn C dL_law_39 (off := 1015) (tgt := 1054) (by decide) (by decide) (by decide) (by decide) (lc_16 C hXw hX9 hbl hbA hl hL hk9 hi hO hX hM kn)
      · exact j_tableIn C dL_law_39 (off := 1083) (tgt := 1122) (by decide) (by decide) (by decide) (by decide) (lc_17 C hXw hX9 hbl hbA hl hL hk9 hi hO hX hM kn)
      · exact j_tableIn C dL_law_39 (off := 1151) (tgt := 1190) (by decide) (by decide) (by decide) (by decide) (lc_18 C hXw hX9 hbl hbA hl hL hk9 hi hO hX hM kn)
      · exact j_tableIn C dL_law_39 (off := 1231) (tgt := 1270) (by decide) (by decide) (by decide) (by decide) (lc_19 C hXw hX9 hbl hbA hl hL hk9 hi hO hX hM kn)
      · exact j_tableIn C dL_law_39 (off := 1299) (tgt := 1338) (by decide) (by decide) (by decide) (by decide) (lc_20 C hXw hX9 hbl hbA hl hL hk9 hi hO hX hM kn)
      · exact j_tableIn C dL_law_39 (off := 1355) (tgt := 1394) (by decide) (by decide) (by decide) (by decide) (lc_21 C hXw hX9 hbl hbA hl hL hk9 hi hO hX hM kn)
      · exact j_tableIn C dL_law_39 (off := 1423) (tgt := 1462) (by decide) (by decide) (by decide) (by decide) (lc_22 C hXw hX9 hbl hbA hl hL hk9 hi hO hX hM kn)
      · exact j_tableIn C dL_law_39 (off := 1491) (tgt := 1530) (by decide) (by decide) (by decide) (by decide) (lc_23 C hXw hX9 hbl hbA hl hL hk9 hi hO hX hM kn)
      · exact j_tableIn C dL_law_39 (off := 1571) (tgt := 1610) (by decide) (by decide) (by decide) (by decide) (lc_24 C hXw hX9 hbl hbA hl hL hk9 hi hO hX hM kn)
      · exact j_tableIn C dL_law_39 (off := 1584) (tgt := 1623) (by decide) (by decide) (by decide) (by decide) (lc_25 C hXw hX9 hbl hbA hl hL hk9 hi hO hX hM kn)
      · exact j_tableIn C dL_law_39 (off := 1625) (tgt := 1664) (by decide) (by decide) (by decide) (by decide) (lc_26 C hXw hX9 hbl hbA hl hL hk9 hi hO hX hM kn)
    · refine j_tableOut C dL_law_39 (tgt := 1678) (Or.inr (by rw [nI_toInt (by omega)]; omega)) (by decide) ?_
      exact j_widen (Nat.le_succ _) (Nat.le_add_right _ _) (kn S M hO hX hM)
