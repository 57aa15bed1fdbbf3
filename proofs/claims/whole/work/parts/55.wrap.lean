section J90
variable {G : GG} {p : Program} {l : Launch} {e : Env} {R : Room} {s : State} {m : MethodId} {args : Array Value} {below : List Frame} {meth : Method} {c : Code} {A : Nat → Prop} {nL : Nat} {Q : State → Prop} {k9 n9 pc : Nat} {lv : List (Nat × Value)} {st : List Value} {M : MM} {cc : ByteArray} {own : String} {Ts : List Cond}
theorem cellO {G : GG} {M : MM} {o : Nat → Int64} {j : Nat} (h : j < 91) (hj : ¬ 90 = j) : cellOf G (setO M o) j = cellOf G M j := by
  unfold cellOf
  split
  · rfl
  · rename_i h1
    obtain ⟨k, hk, rfl⟩ : ∃ k, k < 18 ∧ j = 72 + k := ⟨j - 72, by omega, by omega⟩
    rcases (show k = 0 ∨ k = 1 ∨ k = 2 ∨ k = 3 ∨ k = 4 ∨ k = 5 ∨ k = 6 ∨ k = 7 ∨ k = 8 ∨ k = 9 ∨ k = 10 ∨ k = 11 ∨ k = 12 ∨ k = 13 ∨ k = 14 ∨ k = 15 ∨ k = 16 ∨ k = 17 by omega) with rfl | rfl | rfl | rfl | rfl | rfl | rfl | rfl | rfl | rfl | rfl | rfl | rfl | rfl | rfl | rfl | rfl | rfl <;> rfl
theorem WS_setO {G : GG} {M : MM} {o : Nat → Int64} {e : va_E} (hx : cellOf G (setO M o) 90 = e) : (WS G M).set 90 (G.2.2 90, e) = WS G (setO M o) := by
  apply List.ext_getElem?
  intro j
  rw [List.getElem?_set]
  by_cases hj : 90 = j
  · subst hj
    rw [WS_get (by decide) hx, if_pos rfl, if_pos (by simp [WS, NN])]
  · rw [if_neg hj]
    rcases Nat.lt_or_ge j NN with h | h
    · rw [WS_get h (cellO h hj), WS_get h rfl]
    · rw [List.getElem?_eq_none (by simpa [WS] using h), List.getElem?_eq_none (by simpa [WS] using h)]
theorem j_last90 (C : Cx G p s m args meth c A cc nL own Ts) {a : Nat} {x : Int64} (hd : decode cc pc = .ok (.lastore, 1)) (ha : a < 1)
    (k : J G p l e R s m args below meth c A nL Q k9 n9 (pc + 1) lv st (setO M (vp_updL M.2.2.2 0 x)))
    : J G p l e R s m args below meth c A nL Q k9 n9 pc lv (.long x :: .int (nI a) :: .ref (G.2.2 90) :: st) M := by
  obtain rfl : a = 0 := by omega
  intro H locs ls hP hS hv
  refine va_last C.1 C.2.1 C.K hP C.D hS 90 4 (WS_get (by decide) rfl) rfl (vp_in_nI (by decide) (by decide)) hd (fun H1 locs1 hP1 _ hS1 => ?_)
  have e : (WS G M).set 90 (G.2.2 90, .inl (G.2.1 4, 1, .inr (.inl (vp_updL M.2.2.2 0 x)))) = WS G (setO M (vp_updL M.2.2.2 0 x)) := WS_setO rfl
  rw [nI_clamp (by decide), e] at hP1
  exact k H1 locs1 ls hP1 hS1 hv
theorem j_lald90 (C : Cx G p s m args meth c A cc nL own Ts) {a : Nat} (hd : decode cc pc = .ok (.laload, 1)) (ha : a < 1)
    (k : J G p l e R s m args below meth c A nL Q k9 n9 (pc + 1) lv (.long (M.2.2.2 0) :: st) M)
    : J G p l e R s m args below meth c A nL Q k9 n9 pc lv (.int (nI a) :: .ref (G.2.2 90) :: st) M := by
  obtain rfl : a = 0 := by omega
  intro H locs ls hP hS hv
  have k2 := k H locs ls hP hS hv
  rw [← nI_clamp (n := 0) (by decide)] at k2
  exact va_lald C.1 C.2.1 C.K hP 90 4 (WS_get (by decide) rfl) rfl (vp_in_nI (by decide) (by decide)) hd k2
end J90
set_option maxRecDepth 20000 in
theorem kd_X5_mix : yX5_mix.cls = RX5 ∧ yX5_mix.cls ≠ "java/lang/invoke/MethodHandle" ∧ yX5_mix.cls ≠ "java/lang/invoke/VarHandle" ∧ (parseMethodDescriptor yX5_mix.desc).map (fun d => d.parameters.length) = some 3 := by decide +kernel
set_option maxRecDepth 20000 in
theorem cl_L_mix_13 : Cond.classLink RL 13 "java/lang/IndexOutOfBoundsException" ∈ wsL_mix := by decide +kernel
set_option maxRecDepth 20000 in
theorem cl_L_mix_15 : Cond.classLink RL 15 "java/lang/IllegalArgumentException" ∈ wsL_mix := by decide +kernel
set_option maxRecDepth 20000 in
theorem kd_X5_painter : yX5_painter.cls = RX5 ∧ yX5_painter.cls ≠ "java/lang/invoke/MethodHandle" ∧ yX5_painter.cls ≠ "java/lang/invoke/VarHandle" ∧ (parseMethodDescriptor yX5_painter.desc).map (fun d => d.parameters.length) = some 3 := by decide +kernel
set_option maxRecDepth 20000 in
theorem cl_L_painter_13 : Cond.classLink RL 13 "java/lang/IndexOutOfBoundsException" ∈ wsL_painter := by decide +kernel
set_option maxRecDepth 20000 in
theorem cl_L_painter_15 : Cond.classLink RL 15 "java/lang/IllegalArgumentException" ∈ wsL_painter := by decide +kernel
set_option maxRecDepth 20000 in
theorem kd_X5_borrow : yX5_borrow.cls = RX5 ∧ yX5_borrow.cls ≠ "java/lang/invoke/MethodHandle" ∧ yX5_borrow.cls ≠ "java/lang/invoke/VarHandle" ∧ (parseMethodDescriptor yX5_borrow.desc).map (fun d => d.parameters.length) = some 2 := by decide +kernel
set_option maxRecDepth 20000 in
theorem cl_L_borrow_13 : Cond.classLink RL 13 "java/lang/IndexOutOfBoundsException" ∈ wsL_borrow := by decide +kernel
set_option maxRecDepth 20000 in
theorem kd_X5_label : yX5_label.cls = RX5 ∧ yX5_label.cls ≠ "java/lang/invoke/MethodHandle" ∧ yX5_label.cls ≠ "java/lang/invoke/VarHandle" ∧ (parseMethodDescriptor yX5_label.desc).map (fun d => d.parameters.length) = some 2 := by decide +kernel
set_option maxRecDepth 20000 in
theorem cl_L_label_13 : Cond.classLink RL 13 "java/lang/IndexOutOfBoundsException" ∈ wsL_label := by decide +kernel
set_option maxRecDepth 20000 in
theorem cl_L_label_15 : Cond.classLink RL 15 "java/lang/IllegalArgumentException" ∈ wsL_label := by decide +kernel
set_option maxRecDepth 20000 in
theorem kd_X5_labelAll : yX5_labelAll.cls = RX5 ∧ yX5_labelAll.cls ≠ "java/lang/invoke/MethodHandle" ∧ yX5_labelAll.cls ≠ "java/lang/invoke/VarHandle" ∧ (parseMethodDescriptor yX5_labelAll.desc).map (fun d => d.parameters.length) = some 1 := by decide +kernel
set_option maxRecDepth 20000 in
theorem cl_L_labelAll_13 : Cond.classLink RL 13 "java/lang/IndexOutOfBoundsException" ∈ wsL_labelAll := by decide +kernel
set_option maxRecDepth 20000 in
theorem kd_X5_hang : yX5_hang.cls = RX5 ∧ yX5_hang.cls ≠ "java/lang/invoke/MethodHandle" ∧ yX5_hang.cls ≠ "java/lang/invoke/VarHandle" ∧ (parseMethodDescriptor yX5_hang.desc).map (fun d => d.parameters.length) = some 2 := by decide +kernel
set_option maxRecDepth 20000 in
theorem cl_L_hang_13 : Cond.classLink RL 13 "java/lang/IndexOutOfBoundsException" ∈ wsL_hang := by decide +kernel
set_option maxRecDepth 20000 in
theorem cl_L_hang_15 : Cond.classLink RL 15 "java/lang/IllegalArgumentException" ∈ wsL_hang := by decide +kernel
set_option maxRecDepth 20000 in
theorem kd_X5_takeDown : yX5_takeDown.cls = RX5 ∧ yX5_takeDown.cls ≠ "java/lang/invoke/MethodHandle" ∧ yX5_takeDown.cls ≠ "java/lang/invoke/VarHandle" ∧ (parseMethodDescriptor yX5_takeDown.desc).map (fun d => d.parameters.length) = some 1 := by decide +kernel
set_option maxRecDepth 20000 in
theorem cl_L_takeDown_13 : Cond.classLink RL 13 "java/lang/IndexOutOfBoundsException" ∈ wsL_takeDown := by decide +kernel
set_option maxRecDepth 20000 in
theorem kd_X5_correct : yX5_correct.cls = RX5 ∧ yX5_correct.cls ≠ "java/lang/invoke/MethodHandle" ∧ yX5_correct.cls ≠ "java/lang/invoke/VarHandle" ∧ (parseMethodDescriptor yX5_correct.desc).map (fun d => d.parameters.length) = some 2 := by decide +kernel
set_option maxRecDepth 20000 in
theorem cl_L_correct_13 : Cond.classLink RL 13 "java/lang/IndexOutOfBoundsException" ∈ wsL_correct := by decide +kernel
set_option maxRecDepth 20000 in
theorem kd_X5_append : yX5_append.cls = RX5 ∧ yX5_append.cls ≠ "java/lang/invoke/MethodHandle" ∧ yX5_append.cls ≠ "java/lang/invoke/VarHandle" ∧ (parseMethodDescriptor yX5_append.desc).map (fun d => d.parameters.length) = some 1 := by decide +kernel
set_option maxRecDepth 20000 in
theorem cl_L_append_15 : Cond.classLink RL 15 "java/lang/IllegalArgumentException" ∈ wsL_append := by decide +kernel
set_option maxRecDepth 20000 in
theorem cl_L_append_43 : Cond.classLink RL 43 "java/lang/IllegalStateException" ∈ wsL_append := by decide +kernel
set_option maxRecDepth 20000 in
theorem kd_X5_load : yX5_load.cls = RX5 ∧ yX5_load.cls ≠ "java/lang/invoke/MethodHandle" ∧ yX5_load.cls ≠ "java/lang/invoke/VarHandle" ∧ (parseMethodDescriptor yX5_load.desc).map (fun d => d.parameters.length) = some 0 := by decide +kernel
set_option maxRecDepth 20000 in
theorem cl_L_load_15 : Cond.classLink RL 15 "java/lang/IllegalArgumentException" ∈ wsL_load := by decide +kernel
set_option maxRecDepth 20000 in
theorem kd_X5_keep : yX5_keep.cls = RX5 ∧ yX5_keep.cls ≠ "java/lang/invoke/MethodHandle" ∧ yX5_keep.cls ≠ "java/lang/invoke/VarHandle" ∧ (parseMethodDescriptor yX5_keep.desc).map (fun d => d.parameters.length) = some 1 := by decide +kernel
set_option maxRecDepth 20000 in
theorem cl_L_keep_15 : Cond.classLink RL 15 "java/lang/IllegalArgumentException" ∈ wsL_keep := by decide +kernel
set_option maxRecDepth 20000 in
theorem kd_X5_goBack : yX5_goBack.cls = RX5 ∧ yX5_goBack.cls ≠ "java/lang/invoke/MethodHandle" ∧ yX5_goBack.cls ≠ "java/lang/invoke/VarHandle" ∧ (parseMethodDescriptor yX5_goBack.desc).map (fun d => d.parameters.length) = some 1 := by decide +kernel
set_option maxRecDepth 20000 in
theorem cl_L_goBack_15 : Cond.classLink RL 15 "java/lang/IllegalArgumentException" ∈ wsL_goBack := by decide +kernel
set_option maxRecDepth 20000 in
theorem cl_L_goBack_43 : Cond.classLink RL 43 "java/lang/IllegalStateException" ∈ wsL_goBack := by decide +kernel
set_option maxRecDepth 20000 in
theorem kd_X5_undo : yX5_undo.cls = RX5 ∧ yX5_undo.cls ≠ "java/lang/invoke/MethodHandle" ∧ yX5_undo.cls ≠ "java/lang/invoke/VarHandle" ∧ (parseMethodDescriptor yX5_undo.desc).map (fun d => d.parameters.length) = some 0 := by decide +kernel
set_option maxRecDepth 20000 in
theorem cl_L_undo_43 : Cond.classLink RL 43 "java/lang/IllegalStateException" ∈ wsL_undo := by decide +kernel
set_option maxRecDepth 20000 in
theorem cl_L_potOf_13 : Cond.classLink RL 13 "java/lang/IndexOutOfBoundsException" ∈ wsL_potOf := by decide +kernel
set_option maxRecDepth 20000 in
theorem cl_L_potOf_15 : Cond.classLink RL 15 "java/lang/IllegalArgumentException" ∈ wsL_potOf := by decide +kernel
set_option maxRecDepth 20000 in
theorem cl_L_seen_13 : Cond.classLink RL 13 "java/lang/IndexOutOfBoundsException" ∈ wsL_seen := by decide +kernel
set_option maxRecDepth 20000 in
theorem cl_L_painterOf_13 : Cond.classLink RL 13 "java/lang/IndexOutOfBoundsException" ∈ wsL_painterOf := by decide +kernel
set_option maxRecDepth 20000 in
theorem cl_L_painterOf_15 : Cond.classLink RL 15 "java/lang/IllegalArgumentException" ∈ wsL_painterOf := by decide +kernel
set_option maxRecDepth 20000 in
theorem kd_X5_apart : yX5_apart.cls = RX5 ∧ yX5_apart.cls ≠ "java/lang/invoke/MethodHandle" ∧ yX5_apart.cls ≠ "java/lang/invoke/VarHandle" ∧ (parseMethodDescriptor yX5_apart.desc).map (fun d => d.parameters.length) = some 3 := by decide +kernel
set_option maxRecDepth 20000 in
theorem cl_L_apart_13 : Cond.classLink RL 13 "java/lang/IndexOutOfBoundsException" ∈ wsL_apart := by decide +kernel
set_option maxRecDepth 20000 in
theorem cl_L_chartOf_13 : Cond.classLink RL 13 "java/lang/IndexOutOfBoundsException" ∈ wsL_chartOf := by decide +kernel
set_option maxRecDepth 20000 in
theorem cl_L_chartOf_15 : Cond.classLink RL 15 "java/lang/IllegalArgumentException" ∈ wsL_chartOf := by decide +kernel
set_option maxRecDepth 20000 in
theorem cl_L_count_15 : Cond.classLink RL 15 "java/lang/IllegalArgumentException" ∈ wsL_count := by decide +kernel
set_option maxRecDepth 20000 in
theorem cl_L_fewest_13 : Cond.classLink RL 13 "java/lang/IndexOutOfBoundsException" ∈ wsL_fewest := by decide +kernel
set_option maxRecDepth 20000 in
theorem cl_L_fewest_15 : Cond.classLink RL 15 "java/lang/IllegalArgumentException" ∈ wsL_fewest := by decide +kernel
set_option maxRecDepth 20000 in
theorem cl_L_ifBorrowed_13 : Cond.classLink RL 13 "java/lang/IndexOutOfBoundsException" ∈ wsL_ifBorrowed := by decide +kernel
set_option maxRecDepth 20000 in
theorem cl_L_leastChange_13 : Cond.classLink RL 13 "java/lang/IndexOutOfBoundsException" ∈ wsL_leastChange := by decide +kernel
set_option maxRecDepth 20000 in
theorem cl_L_leastChange_15 : Cond.classLink RL 15 "java/lang/IllegalArgumentException" ∈ wsL_leastChange := by decide +kernel
set_option maxHeartbeats 4000000 in
set_option maxRecDepth 100000 in
theorem wo_mix {l : Launch} {G : GG} {M : MM} {a b d : Int32} {r : Int32} {P : MM → Prop} {dd : Nat} (hdd : dd ≤ 11) (h : Ct l G yX5_mix wsX5_mix dd ([.ref (G.2.2 72), .int a, .int b, .int d] : List Value) M (fun v9 M9 => v9 = some (.int r) ∧ P M9)) : Cw l G yL_mix wsL_mix 12 ([.ref (G.2.2 72), .int (a), .int (b), .int (d), .ref (G.2.2 90)] : List Value) M (fun v9 M9 => v9 = some (.int (nI 0)) ∧ ∃ M1, P M1 ∧ M9 = setO M1 (vp_updL M1.2.2.2 0 (r).toInt64)) := by
  refine Cw.of (cc := cL_mix) (maxL := 6) (ret := (some .int)) (lv := [(0, .ref (G.2.2 72)), (1, .int (a)), (2, .int (b)), (3, .int (d)), (4, .ref (G.2.2 90))]) (by decide) rfl rfl (Nat.le_of_ble_eq_true rfl) ?_
  intro pg ev sg mm bl mt cd AZ C hXw htab hret
  refine j_widen (k := 1) (n := 6) (Nat.zero_le _) (Nat.zero_le _) ?_
  refine j_aload C dL_mix_0 rfl ?_
  refine j_iconst C dL_mix_2 (v := nI 0) (by decide) ?_
  refine j_aload_n C dL_mix_3 rfl ?_
  refine j_iload_n C dL_mix_4 rfl ?_
  refine j_iload_n C dL_mix_5 rfl ?_
  refine j_iload_n C dL_mix_6 rfl ?_
  refine j_callV C h dL_mix_7 rfl (by decide) (T := TX5) rfl gL_mix_X5_mix rfl kd_X5_mix rfl rfl (Nat.le_of_ble_eq_true rfl) ⟨by show dd + 1 ≤ 18; omega, by show 8 + (5 + 11) + 48 * dd ≤ 672; omega⟩ ⟨Nat.le_refl _, Nat.le_refl _⟩ (k_IQ fun M1 hq => ?_)
  refine j_i2l C dL_mix_10 ?_
  refine j_last90 C dL_mix_11 (by decide) ?_
  refine j_goto C dL_mix_12 (tgt := 23) (by decide) ?_
  refine j_iconst C dL_mix_23 (v := nI 0) (by decide) ?_
  exact j_ireturn C hret dL_mix_24 ⟨rfl, M1, hq, rfl⟩

set_option maxHeartbeats 4000000 in
set_option maxRecDepth 100000 in
theorem we_mix_1 {l : Launch} {G : GG} {M : MM} {a b d : Int32} {dd : Nat} (hdd : dd ≤ 2) (h : Tt l G yX5_mix wsX5_mix dd ([.ref (G.2.2 72), .int a, .int b, .int d] : List Value) M "java/lang/IndexOutOfBoundsException") : Cw l G yL_mix wsL_mix 12 ([.ref (G.2.2 72), .int (a), .int (b), .int (d), .ref (G.2.2 90)] : List Value) M (rI (nI 1) M) := by
  refine Cw.of (cc := cL_mix) (maxL := 6) (ret := (some .int)) (lv := [(0, .ref (G.2.2 72)), (1, .int (a)), (2, .int (b)), (3, .int (d)), (4, .ref (G.2.2 90))]) (by decide) rfl rfl (Nat.le_of_ble_eq_true rfl) ?_
  intro pg ev sg mm bl mt cd AZ C hXw htab hret
  refine j_aload C dL_mix_0 rfl ?_
  refine j_iconst C dL_mix_2 (v := nI 0) (by decide) ?_
  refine j_aload_n C dL_mix_3 rfl ?_
  refine j_iload_n C dL_mix_4 rfl ?_
  refine j_iload_n C dL_mix_5 rfl ?_
  refine j_iload_n C dL_mix_6 rfl ?_
  refine j_callCV C hXw [] ⟨0, 12, 15, 13⟩ [⟨0, 12, 19, 15⟩] (htab.trans rfl) (fun _ hz => absurd hz List.not_mem_nil) rfl (by decide) cl_L_mix_13 (by decide +kernel) h dL_mix_7 rfl (by decide) (T := TX5) rfl gL_mix_X5_mix rfl kd_X5_mix rfl rfl (Nat.le_of_ble_eq_true rfl) ⟨by show dd + 6 + 1 ≤ 18; omega, by show 8 + (5 + 11) + (48 * dd + 96) ≤ 672; omega⟩ ⟨Nat.le_refl _, Nat.le_refl _⟩ (fun q9 => ?_)
  show J G pg l ev (rmX 12) sg mm _ bl mt cd AZ _ _ 1 6 15 _ _ _
  refine j_astore C dL_mix_15 (by decide) ?_
  refine j_iconst C dL_mix_17 (v := nI 1) (by decide) ?_
  exact j_ireturn C hret dL_mix_18 ⟨rfl, rfl⟩

set_option maxHeartbeats 4000000 in
set_option maxRecDepth 100000 in
theorem we_mix_2 {l : Launch} {G : GG} {M : MM} {a b d : Int32} {dd : Nat} (hdd : dd ≤ 2) (h : Tt l G yX5_mix wsX5_mix dd ([.ref (G.2.2 72), .int a, .int b, .int d] : List Value) M "java/lang/IllegalArgumentException") : Cw l G yL_mix wsL_mix 12 ([.ref (G.2.2 72), .int (a), .int (b), .int (d), .ref (G.2.2 90)] : List Value) M (rI (nI 2) M) := by
  refine Cw.of (cc := cL_mix) (maxL := 6) (ret := (some .int)) (lv := [(0, .ref (G.2.2 72)), (1, .int (a)), (2, .int (b)), (3, .int (d)), (4, .ref (G.2.2 90))]) (by decide) rfl rfl (Nat.le_of_ble_eq_true rfl) ?_
  intro pg ev sg mm bl mt cd AZ C hXw htab hret
  refine j_aload C dL_mix_0 rfl ?_
  refine j_iconst C dL_mix_2 (v := nI 0) (by decide) ?_
  refine j_aload_n C dL_mix_3 rfl ?_
  refine j_iload_n C dL_mix_4 rfl ?_
  refine j_iload_n C dL_mix_5 rfl ?_
  refine j_iload_n C dL_mix_6 rfl ?_
  refine j_callCV C hXw [⟨0, 12, 15, 13⟩] ⟨0, 12, 19, 15⟩ [] (htab.trans rfl) (fun z hz => by have e := List.mem_singleton.mp hz; subst e; exact Or.inr ⟨by decide, _, cl_L_mix_13, by decide +kernel⟩) rfl (by decide) cl_L_mix_15 (by decide +kernel) h dL_mix_7 rfl (by decide) (T := TX5) rfl gL_mix_X5_mix rfl kd_X5_mix rfl rfl (Nat.le_of_ble_eq_true rfl) ⟨by show dd + 6 + 1 ≤ 18; omega, by show 8 + (5 + 11) + (48 * dd + 96) ≤ 672; omega⟩ ⟨Nat.le_refl _, Nat.le_refl _⟩ (fun q9 => ?_)
  show J G pg l ev (rmX 12) sg mm _ bl mt cd AZ _ _ 1 6 19 _ _ _
  refine j_astore C dL_mix_19 (by decide) ?_
  refine j_iconst C dL_mix_21 (v := nI 2) (by decide) ?_
  exact j_ireturn C hret dL_mix_22 ⟨rfl, rfl⟩

set_option maxHeartbeats 4000000 in
set_option maxRecDepth 100000 in
theorem wo_painter {l : Launch} {G : GG} {M : MM} {a b d : Int32} {r : Int32} {P : MM → Prop} {dd : Nat} (hdd : dd ≤ 11) (h : Ct l G yX5_painter wsX5_painter dd ([.ref (G.2.2 72), .int a, .int b, .int d] : List Value) M (fun v9 M9 => v9 = some (.int r) ∧ P M9)) : Cw l G yL_painter wsL_painter 12 ([.ref (G.2.2 72), .int (a), .int (b), .int (d), .ref (G.2.2 90)] : List Value) M (fun v9 M9 => v9 = some (.int (nI 0)) ∧ ∃ M1, P M1 ∧ M9 = setO M1 (vp_updL M1.2.2.2 0 (r).toInt64)) := by
  refine Cw.of (cc := cL_painter) (maxL := 6) (ret := (some .int)) (lv := [(0, .ref (G.2.2 72)), (1, .int (a)), (2, .int (b)), (3, .int (d)), (4, .ref (G.2.2 90))]) (by decide) rfl rfl (Nat.le_of_ble_eq_true rfl) ?_
  intro pg ev sg mm bl mt cd AZ C hXw htab hret
  refine j_widen (k := 1) (n := 6) (Nat.zero_le _) (Nat.zero_le _) ?_
  refine j_aload C dL_painter_0 rfl ?_
  refine j_iconst C dL_painter_2 (v := nI 0) (by decide) ?_
  refine j_aload_n C dL_painter_3 rfl ?_
  refine j_iload_n C dL_painter_4 rfl ?_
  refine j_iload_n C dL_painter_5 rfl ?_
  refine j_iload_n C dL_painter_6 rfl ?_
  refine j_callV C h dL_painter_7 rfl (by decide) (T := TX5) rfl gL_painter_X5_painter rfl kd_X5_painter rfl rfl (Nat.le_of_ble_eq_true rfl) ⟨by show dd + 1 ≤ 18; omega, by show 8 + (6 + 11) + 48 * dd ≤ 672; omega⟩ ⟨Nat.le_refl _, Nat.le_refl _⟩ (k_IQ fun M1 hq => ?_)
  refine j_i2l C dL_painter_10 ?_
  refine j_last90 C dL_painter_11 (by decide) ?_
  refine j_goto C dL_painter_12 (tgt := 23) (by decide) ?_
  refine j_iconst C dL_painter_23 (v := nI 0) (by decide) ?_
  exact j_ireturn C hret dL_painter_24 ⟨rfl, M1, hq, rfl⟩

set_option maxHeartbeats 4000000 in
set_option maxRecDepth 100000 in
theorem we_painter_1 {l : Launch} {G : GG} {M : MM} {a b d : Int32} {dd : Nat} (hdd : dd ≤ 2) (h : Tt l G yX5_painter wsX5_painter dd ([.ref (G.2.2 72), .int a, .int b, .int d] : List Value) M "java/lang/IndexOutOfBoundsException") : Cw l G yL_painter wsL_painter 12 ([.ref (G.2.2 72), .int (a), .int (b), .int (d), .ref (G.2.2 90)] : List Value) M (rI (nI 1) M) := by
  refine Cw.of (cc := cL_painter) (maxL := 6) (ret := (some .int)) (lv := [(0, .ref (G.2.2 72)), (1, .int (a)), (2, .int (b)), (3, .int (d)), (4, .ref (G.2.2 90))]) (by decide) rfl rfl (Nat.le_of_ble_eq_true rfl) ?_
  intro pg ev sg mm bl mt cd AZ C hXw htab hret
  refine j_aload C dL_painter_0 rfl ?_
  refine j_iconst C dL_painter_2 (v := nI 0) (by decide) ?_
  refine j_aload_n C dL_painter_3 rfl ?_
  refine j_iload_n C dL_painter_4 rfl ?_
  refine j_iload_n C dL_painter_5 rfl ?_
  refine j_iload_n C dL_painter_6 rfl ?_
  refine j_callCV C hXw [] ⟨0, 12, 15, 13⟩ [⟨0, 12, 19, 15⟩] (htab.trans rfl) (fun _ hz => absurd hz List.not_mem_nil) rfl (by decide) cl_L_painter_13 (by decide +kernel) h dL_painter_7 rfl (by decide) (T := TX5) rfl gL_painter_X5_painter rfl kd_X5_painter rfl rfl (Nat.le_of_ble_eq_true rfl) ⟨by show dd + 6 + 1 ≤ 18; omega, by show 8 + (6 + 11) + (48 * dd + 96) ≤ 672; omega⟩ ⟨Nat.le_refl _, Nat.le_refl _⟩ (fun q9 => ?_)
  show J G pg l ev (rmX 12) sg mm _ bl mt cd AZ _ _ 1 6 15 _ _ _
  refine j_astore C dL_painter_15 (by decide) ?_
  refine j_iconst C dL_painter_17 (v := nI 1) (by decide) ?_
  exact j_ireturn C hret dL_painter_18 ⟨rfl, rfl⟩

set_option maxHeartbeats 4000000 in
set_option maxRecDepth 100000 in
theorem we_painter_2 {l : Launch} {G : GG} {M : MM} {a b d : Int32} {dd : Nat} (hdd : dd ≤ 2) (h : Tt l G yX5_painter wsX5_painter dd ([.ref (G.2.2 72), .int a, .int b, .int d] : List Value) M "java/lang/IllegalArgumentException") : Cw l G yL_painter wsL_painter 12 ([.ref (G.2.2 72), .int (a), .int (b), .int (d), .ref (G.2.2 90)] : List Value) M (rI (nI 2) M) := by
  refine Cw.of (cc := cL_painter) (maxL := 6) (ret := (some .int)) (lv := [(0, .ref (G.2.2 72)), (1, .int (a)), (2, .int (b)), (3, .int (d)), (4, .ref (G.2.2 90))]) (by decide) rfl rfl (Nat.le_of_ble_eq_true rfl) ?_
  intro pg ev sg mm bl mt cd AZ C hXw htab hret
  refine j_aload C dL_painter_0 rfl ?_
  refine j_iconst C dL_painter_2 (v := nI 0) (by decide) ?_
  refine j_aload_n C dL_painter_3 rfl ?_
  refine j_iload_n C dL_painter_4 rfl ?_
  refine j_iload_n C dL_painter_5 rfl ?_
  refine j_iload_n C dL_painter_6 rfl ?_
  refine j_callCV C hXw [⟨0, 12, 15, 13⟩] ⟨0, 12, 19, 15⟩ [] (htab.trans rfl) (fun z hz => by have e := List.mem_singleton.mp hz; subst e; exact Or.inr ⟨by decide, _, cl_L_painter_13, by decide +kernel⟩) rfl (by decide) cl_L_painter_15 (by decide +kernel) h dL_painter_7 rfl (by decide) (T := TX5) rfl gL_painter_X5_painter rfl kd_X5_painter rfl rfl (Nat.le_of_ble_eq_true rfl) ⟨by show dd + 6 + 1 ≤ 18; omega, by show 8 + (6 + 11) + (48 * dd + 96) ≤ 672; omega⟩ ⟨Nat.le_refl _, Nat.le_refl _⟩ (fun q9 => ?_)
  show J G pg l ev (rmX 12) sg mm _ bl mt cd AZ _ _ 1 6 19 _ _ _
  refine j_astore C dL_painter_19 (by decide) ?_
  refine j_iconst C dL_painter_21 (v := nI 2) (by decide) ?_
  exact j_ireturn C hret dL_painter_22 ⟨rfl, rfl⟩

set_option maxHeartbeats 4000000 in
set_option maxRecDepth 100000 in
theorem wo_borrow {l : Launch} {G : GG} {M : MM} {a b : Int32} {r : Int32} {P : MM → Prop} {dd : Nat} (hdd : dd ≤ 11) (h : Ct l G yX5_borrow wsX5_borrow dd ([.ref (G.2.2 72), .int a, .int b] : List Value) M (fun v9 M9 => v9 = some (.int r) ∧ P M9)) : Cw l G yL_borrow wsL_borrow 12 ([.ref (G.2.2 72), .int (a), .int (b), .ref (G.2.2 90)] : List Value) M (fun v9 M9 => v9 = some (.int (nI 0)) ∧ ∃ M1, P M1 ∧ M9 = setO M1 (vp_updL M1.2.2.2 0 (r).toInt64)) := by
  refine Cw.of (cc := cL_borrow) (maxL := 5) (ret := (some .int)) (lv := [(0, .ref (G.2.2 72)), (1, .int (a)), (2, .int (b)), (3, .ref (G.2.2 90))]) (by decide) rfl rfl (Nat.le_of_ble_eq_true rfl) ?_
  intro pg ev sg mm bl mt cd AZ C hXw htab hret
  refine j_widen (k := 1) (n := 6) (Nat.zero_le _) (Nat.zero_le _) ?_
  refine j_aload_n C dL_borrow_0 rfl ?_
  refine j_iconst C dL_borrow_1 (v := nI 0) (by decide) ?_
  refine j_aload_n C dL_borrow_2 rfl ?_
  refine j_iload_n C dL_borrow_3 rfl ?_
  refine j_iload_n C dL_borrow_4 rfl ?_
  refine j_callV C h dL_borrow_5 rfl (by decide) (T := TX5) rfl gL_borrow_X5_borrow rfl kd_X5_borrow rfl rfl (Nat.le_of_ble_eq_true rfl) ⟨by show dd + 1 ≤ 18; omega, by show 8 + (4 + 11) + 48 * dd ≤ 672; omega⟩ ⟨Nat.le_refl _, Nat.le_refl _⟩ (k_IQ fun M1 hq => ?_)
  refine j_i2l C dL_borrow_8 ?_
  refine j_last90 C dL_borrow_9 (by decide) ?_
  refine j_goto C dL_borrow_10 (tgt := 17) (by decide) ?_
  refine j_iconst C dL_borrow_17 (v := nI 0) (by decide) ?_
  exact j_ireturn C hret dL_borrow_18 ⟨rfl, M1, hq, rfl⟩

set_option maxHeartbeats 4000000 in
set_option maxRecDepth 100000 in
theorem we_borrow_1 {l : Launch} {G : GG} {M : MM} {a b : Int32} {dd : Nat} (hdd : dd ≤ 2) (h : Tt l G yX5_borrow wsX5_borrow dd ([.ref (G.2.2 72), .int a, .int b] : List Value) M "java/lang/IndexOutOfBoundsException") : Cw l G yL_borrow wsL_borrow 12 ([.ref (G.2.2 72), .int (a), .int (b), .ref (G.2.2 90)] : List Value) M (rI (nI 1) M) := by
  refine Cw.of (cc := cL_borrow) (maxL := 5) (ret := (some .int)) (lv := [(0, .ref (G.2.2 72)), (1, .int (a)), (2, .int (b)), (3, .ref (G.2.2 90))]) (by decide) rfl rfl (Nat.le_of_ble_eq_true rfl) ?_
  intro pg ev sg mm bl mt cd AZ C hXw htab hret
  refine j_aload_n C dL_borrow_0 rfl ?_
  refine j_iconst C dL_borrow_1 (v := nI 0) (by decide) ?_
  refine j_aload_n C dL_borrow_2 rfl ?_
  refine j_iload_n C dL_borrow_3 rfl ?_
  refine j_iload_n C dL_borrow_4 rfl ?_
  refine j_callCV C hXw [] ⟨0, 10, 13, 13⟩ [] (htab.trans rfl) (fun _ hz => absurd hz List.not_mem_nil) rfl (by decide) cl_L_borrow_13 (by decide +kernel) h dL_borrow_5 rfl (by decide) (T := TX5) rfl gL_borrow_X5_borrow rfl kd_X5_borrow rfl rfl (Nat.le_of_ble_eq_true rfl) ⟨by show dd + 6 + 1 ≤ 18; omega, by show 8 + (4 + 11) + (48 * dd + 96) ≤ 672; omega⟩ ⟨Nat.le_refl _, Nat.le_refl _⟩ (fun q9 => ?_)
  show J G pg l ev (rmX 12) sg mm _ bl mt cd AZ _ _ 1 6 13 _ _ _
  refine j_astore C dL_borrow_13 (by decide) ?_
  refine j_iconst C dL_borrow_15 (v := nI 1) (by decide) ?_
  exact j_ireturn C hret dL_borrow_16 ⟨rfl, rfl⟩

set_option maxHeartbeats 4000000 in
set_option maxRecDepth 100000 in
theorem wo_label {l : Launch} {G : GG} {M : MM} {a b : Int32} {r : Int32} {P : MM → Prop} {dd : Nat} (hdd : dd ≤ 11) (h : Ct l G yX5_label wsX5_label dd ([.ref (G.2.2 72), .int a, .int b] : List Value) M (fun v9 M9 => v9 = some (.int r) ∧ P M9)) : Cw l G yL_label wsL_label 12 ([.ref (G.2.2 72), .int (a), .int (b), .ref (G.2.2 90)] : List Value) M (fun v9 M9 => v9 = some (.int (nI 0)) ∧ ∃ M1, P M1 ∧ M9 = setO M1 (vp_updL M1.2.2.2 0 (r).toInt64)) := by
  refine Cw.of (cc := cL_label) (maxL := 5) (ret := (some .int)) (lv := [(0, .ref (G.2.2 72)), (1, .int (a)), (2, .int (b)), (3, .ref (G.2.2 90))]) (by decide) rfl rfl (Nat.le_of_ble_eq_true rfl) ?_
  intro pg ev sg mm bl mt cd AZ C hXw htab hret
  refine j_widen (k := 1) (n := 6) (Nat.zero_le _) (Nat.zero_le _) ?_
  refine j_aload_n C dL_label_0 rfl ?_
  refine j_iconst C dL_label_1 (v := nI 0) (by decide) ?_
  refine j_aload_n C dL_label_2 rfl ?_
  refine j_iload_n C dL_label_3 rfl ?_
  refine j_iload_n C dL_label_4 rfl ?_
  refine j_callV C h dL_label_5 rfl (by decide) (T := TX5) rfl gL_label_X5_label rfl kd_X5_label rfl rfl (Nat.le_of_ble_eq_true rfl) ⟨by show dd + 1 ≤ 18; omega, by show 8 + (4 + 11) + 48 * dd ≤ 672; omega⟩ ⟨Nat.le_refl _, Nat.le_refl _⟩ (k_IQ fun M1 hq => ?_)
  refine j_i2l C dL_label_8 ?_
  refine j_last90 C dL_label_9 (by decide) ?_
  refine j_goto C dL_label_10 (tgt := 21) (by decide) ?_
  refine j_iconst C dL_label_21 (v := nI 0) (by decide) ?_
  exact j_ireturn C hret dL_label_22 ⟨rfl, M1, hq, rfl⟩

set_option maxHeartbeats 4000000 in
set_option maxRecDepth 100000 in
theorem we_label_1 {l : Launch} {G : GG} {M : MM} {a b : Int32} {dd : Nat} (hdd : dd ≤ 2) (h : Tt l G yX5_label wsX5_label dd ([.ref (G.2.2 72), .int a, .int b] : List Value) M "java/lang/IndexOutOfBoundsException") : Cw l G yL_label wsL_label 12 ([.ref (G.2.2 72), .int (a), .int (b), .ref (G.2.2 90)] : List Value) M (rI (nI 1) M) := by
  refine Cw.of (cc := cL_label) (maxL := 5) (ret := (some .int)) (lv := [(0, .ref (G.2.2 72)), (1, .int (a)), (2, .int (b)), (3, .ref (G.2.2 90))]) (by decide) rfl rfl (Nat.le_of_ble_eq_true rfl) ?_
  intro pg ev sg mm bl mt cd AZ C hXw htab hret
  refine j_aload_n C dL_label_0 rfl ?_
  refine j_iconst C dL_label_1 (v := nI 0) (by decide) ?_
  refine j_aload_n C dL_label_2 rfl ?_
  refine j_iload_n C dL_label_3 rfl ?_
  refine j_iload_n C dL_label_4 rfl ?_
  refine j_callCV C hXw [] ⟨0, 10, 13, 13⟩ [⟨0, 10, 17, 15⟩] (htab.trans rfl) (fun _ hz => absurd hz List.not_mem_nil) rfl (by decide) cl_L_label_13 (by decide +kernel) h dL_label_5 rfl (by decide) (T := TX5) rfl gL_label_X5_label rfl kd_X5_label rfl rfl (Nat.le_of_ble_eq_true rfl) ⟨by show dd + 6 + 1 ≤ 18; omega, by show 8 + (4 + 11) + (48 * dd + 96) ≤ 672; omega⟩ ⟨Nat.le_refl _, Nat.le_refl _⟩ (fun q9 => ?_)
  show J G pg l ev (rmX 12) sg mm _ bl mt cd AZ _ _ 1 6 13 _ _ _
  refine j_astore C dL_label_13 (by decide) ?_
  refine j_iconst C dL_label_15 (v := nI 1) (by decide) ?_
  exact j_ireturn C hret dL_label_16 ⟨rfl, rfl⟩

set_option maxHeartbeats 4000000 in
set_option maxRecDepth 100000 in
theorem we_label_2 {l : Launch} {G : GG} {M : MM} {a b : Int32} {dd : Nat} (hdd : dd ≤ 2) (h : Tt l G yX5_label wsX5_label dd ([.ref (G.2.2 72), .int a, .int b] : List Value) M "java/lang/IllegalArgumentException") : Cw l G yL_label wsL_label 12 ([.ref (G.2.2 72), .int (a), .int (b), .ref (G.2.2 90)] : List Value) M (rI (nI 2) M) := by
  refine Cw.of (cc := cL_label) (maxL := 5) (ret := (some .int)) (lv := [(0, .ref (G.2.2 72)), (1, .int (a)), (2, .int (b)), (3, .ref (G.2.2 90))]) (by decide) rfl rfl (Nat.le_of_ble_eq_true rfl) ?_
  intro pg ev sg mm bl mt cd AZ C hXw htab hret
  refine j_aload_n C dL_label_0 rfl ?_
  refine j_iconst C dL_label_1 (v := nI 0) (by decide) ?_
  refine j_aload_n C dL_label_2 rfl ?_
  refine j_iload_n C dL_label_3 rfl ?_
  refine j_iload_n C dL_label_4 rfl ?_
  refine j_callCV C hXw [⟨0, 10, 13, 13⟩] ⟨0, 10, 17, 15⟩ [] (htab.trans rfl) (fun z hz => by have e := List.mem_singleton.mp hz; subst e; exact Or.inr ⟨by decide, _, cl_L_label_13, by decide +kernel⟩) rfl (by decide) cl_L_label_15 (by decide +kernel) h dL_label_5 rfl (by decide) (T := TX5) rfl gL_label_X5_label rfl kd_X5_label rfl rfl (Nat.le_of_ble_eq_true rfl) ⟨by show dd + 6 + 1 ≤ 18; omega, by show 8 + (4 + 11) + (48 * dd + 96) ≤ 672; omega⟩ ⟨Nat.le_refl _, Nat.le_refl _⟩ (fun q9 => ?_)
  show J G pg l ev (rmX 12) sg mm _ bl mt cd AZ _ _ 1 6 17 _ _ _
  refine j_astore C dL_label_17 (by decide) ?_
  refine j_iconst C dL_label_19 (v := nI 2) (by decide) ?_
  exact j_ireturn C hret dL_label_20 ⟨rfl, rfl⟩

set_option maxHeartbeats 4000000 in
set_option maxRecDepth 100000 in
theorem wo_labelAll {l : Launch} {G : GG} {M : MM} {a : Int32} {r : Int32} {P : MM → Prop} {dd : Nat} (hdd : dd ≤ 11) (h : Ct l G yX5_labelAll wsX5_labelAll dd ([.ref (G.2.2 72), .int a] : List Value) M (fun v9 M9 => v9 = some (.int r) ∧ P M9)) : Cw l G yL_labelAll wsL_labelAll 12 ([.ref (G.2.2 72), .int (a), .ref (G.2.2 90)] : List Value) M (fun v9 M9 => v9 = some (.int (nI 0)) ∧ ∃ M1, P M1 ∧ M9 = setO M1 (vp_updL M1.2.2.2 0 (r).toInt64)) := by
  refine Cw.of (cc := cL_labelAll) (maxL := 4) (ret := (some .int)) (lv := [(0, .ref (G.2.2 72)), (1, .int (a)), (2, .ref (G.2.2 90))]) (by decide) rfl rfl (Nat.le_of_ble_eq_true rfl) ?_
  intro pg ev sg mm bl mt cd AZ C hXw htab hret
  refine j_widen (k := 1) (n := 6) (Nat.zero_le _) (Nat.zero_le _) ?_
  refine j_aload_n C dL_labelAll_0 rfl ?_
  refine j_iconst C dL_labelAll_1 (v := nI 0) (by decide) ?_
  refine j_aload_n C dL_labelAll_2 rfl ?_
  refine j_iload_n C dL_labelAll_3 rfl ?_
  refine j_callV C h dL_labelAll_4 rfl (by decide) (T := TX5) rfl gL_labelAll_X5_labelAll rfl kd_X5_labelAll rfl rfl (Nat.le_of_ble_eq_true rfl) ⟨by show dd + 1 ≤ 18; omega, by show 8 + (2 + 11) + 48 * dd ≤ 672; omega⟩ ⟨Nat.le_refl _, Nat.le_refl _⟩ (k_IQ fun M1 hq => ?_)
  refine j_i2l C dL_labelAll_7 ?_
  refine j_last90 C dL_labelAll_8 (by decide) ?_
  refine j_goto C dL_labelAll_9 (tgt := 15) (by decide) ?_
  refine j_iconst C dL_labelAll_15 (v := nI 0) (by decide) ?_
  exact j_ireturn C hret dL_labelAll_16 ⟨rfl, M1, hq, rfl⟩

set_option maxHeartbeats 4000000 in
set_option maxRecDepth 100000 in
theorem we_labelAll_1 {l : Launch} {G : GG} {M : MM} {a : Int32} {dd : Nat} (hdd : dd ≤ 2) (h : Tt l G yX5_labelAll wsX5_labelAll dd ([.ref (G.2.2 72), .int a] : List Value) M "java/lang/IndexOutOfBoundsException") : Cw l G yL_labelAll wsL_labelAll 12 ([.ref (G.2.2 72), .int (a), .ref (G.2.2 90)] : List Value) M (rI (nI 1) M) := by
  refine Cw.of (cc := cL_labelAll) (maxL := 4) (ret := (some .int)) (lv := [(0, .ref (G.2.2 72)), (1, .int (a)), (2, .ref (G.2.2 90))]) (by decide) rfl rfl (Nat.le_of_ble_eq_true rfl) ?_
  intro pg ev sg mm bl mt cd AZ C hXw htab hret
  refine j_aload_n C dL_labelAll_0 rfl ?_
  refine j_iconst C dL_labelAll_1 (v := nI 0) (by decide) ?_
  refine j_aload_n C dL_labelAll_2 rfl ?_
  refine j_iload_n C dL_labelAll_3 rfl ?_
  refine j_callCV C hXw [] ⟨0, 9, 12, 13⟩ [] (htab.trans rfl) (fun _ hz => absurd hz List.not_mem_nil) rfl (by decide) cl_L_labelAll_13 (by decide +kernel) h dL_labelAll_4 rfl (by decide) (T := TX5) rfl gL_labelAll_X5_labelAll rfl kd_X5_labelAll rfl rfl (Nat.le_of_ble_eq_true rfl) ⟨by show dd + 6 + 1 ≤ 18; omega, by show 8 + (2 + 11) + (48 * dd + 96) ≤ 672; omega⟩ ⟨Nat.le_refl _, Nat.le_refl _⟩ (fun q9 => ?_)
  show J G pg l ev (rmX 12) sg mm _ bl mt cd AZ _ _ 1 6 12 _ _ _
  refine j_astore_n C dL_labelAll_12 (by decide) ?_
  refine j_iconst C dL_labelAll_13 (v := nI 1) (by decide) ?_
  exact j_ireturn C hret dL_labelAll_14 ⟨rfl, rfl⟩

set_option maxHeartbeats 4000000 in
set_option maxRecDepth 100000 in
theorem wo_hang {l : Launch} {G : GG} {M : MM} {a b : Int32} {r : Int32} {P : MM → Prop} {dd : Nat} (hdd : dd ≤ 11) (h : Ct l G yX5_hang wsX5_hang dd ([.ref (G.2.2 72), .int a, .int b] : List Value) M (fun v9 M9 => v9 = some (.int r) ∧ P M9)) : Cw l G yL_hang wsL_hang 12 ([.ref (G.2.2 72), .int (a), .int (b), .ref (G.2.2 90)] : List Value) M (fun v9 M9 => v9 = some (.int (nI 0)) ∧ ∃ M1, P M1 ∧ M9 = setO M1 (vp_updL M1.2.2.2 0 (r).toInt64)) := by
  refine Cw.of (cc := cL_hang) (maxL := 5) (ret := (some .int)) (lv := [(0, .ref (G.2.2 72)), (1, .int (a)), (2, .int (b)), (3, .ref (G.2.2 90))]) (by decide) rfl rfl (Nat.le_of_ble_eq_true rfl) ?_
  intro pg ev sg mm bl mt cd AZ C hXw htab hret
  refine j_widen (k := 1) (n := 6) (Nat.zero_le _) (Nat.zero_le _) ?_
  refine j_aload_n C dL_hang_0 rfl ?_
  refine j_iconst C dL_hang_1 (v := nI 0) (by decide) ?_
  refine j_aload_n C dL_hang_2 rfl ?_
  refine j_iload_n C dL_hang_3 rfl ?_
  refine j_iload_n C dL_hang_4 rfl ?_
  refine j_callV C h dL_hang_5 rfl (by decide) (T := TX5) rfl gL_hang_X5_hang rfl kd_X5_hang rfl rfl (Nat.le_of_ble_eq_true rfl) ⟨by show dd + 1 ≤ 18; omega, by show 8 + (3 + 11) + 48 * dd ≤ 672; omega⟩ ⟨Nat.le_refl _, Nat.le_refl _⟩ (k_IQ fun M1 hq => ?_)
  refine j_i2l C dL_hang_8 ?_
  refine j_last90 C dL_hang_9 (by decide) ?_
  refine j_goto C dL_hang_10 (tgt := 21) (by decide) ?_
  refine j_iconst C dL_hang_21 (v := nI 0) (by decide) ?_
  exact j_ireturn C hret dL_hang_22 ⟨rfl, M1, hq, rfl⟩

set_option maxHeartbeats 4000000 in
set_option maxRecDepth 100000 in
theorem we_hang_1 {l : Launch} {G : GG} {M : MM} {a b : Int32} {dd : Nat} (hdd : dd ≤ 2) (h : Tt l G yX5_hang wsX5_hang dd ([.ref (G.2.2 72), .int a, .int b] : List Value) M "java/lang/IndexOutOfBoundsException") : Cw l G yL_hang wsL_hang 12 ([.ref (G.2.2 72), .int (a), .int (b), .ref (G.2.2 90)] : List Value) M (rI (nI 1) M) := by
  refine Cw.of (cc := cL_hang) (maxL := 5) (ret := (some .int)) (lv := [(0, .ref (G.2.2 72)), (1, .int (a)), (2, .int (b)), (3, .ref (G.2.2 90))]) (by decide) rfl rfl (Nat.le_of_ble_eq_true rfl) ?_
  intro pg ev sg mm bl mt cd AZ C hXw htab hret
  refine j_aload_n C dL_hang_0 rfl ?_
  refine j_iconst C dL_hang_1 (v := nI 0) (by decide) ?_
  refine j_aload_n C dL_hang_2 rfl ?_
  refine j_iload_n C dL_hang_3 rfl ?_
  refine j_iload_n C dL_hang_4 rfl ?_
  refine j_callCV C hXw [] ⟨0, 10, 13, 13⟩ [⟨0, 10, 17, 15⟩] (htab.trans rfl) (fun _ hz => absurd hz List.not_mem_nil) rfl (by decide) cl_L_hang_13 (by decide +kernel) h dL_hang_5 rfl (by decide) (T := TX5) rfl gL_hang_X5_hang rfl kd_X5_hang rfl rfl (Nat.le_of_ble_eq_true rfl) ⟨by show dd + 6 + 1 ≤ 18; omega, by show 8 + (3 + 11) + (48 * dd + 96) ≤ 672; omega⟩ ⟨Nat.le_refl _, Nat.le_refl _⟩ (fun q9 => ?_)
  show J G pg l ev (rmX 12) sg mm _ bl mt cd AZ _ _ 1 6 13 _ _ _
  refine j_astore C dL_hang_13 (by decide) ?_
  refine j_iconst C dL_hang_15 (v := nI 1) (by decide) ?_
  exact j_ireturn C hret dL_hang_16 ⟨rfl, rfl⟩

set_option maxHeartbeats 4000000 in
set_option maxRecDepth 100000 in
theorem we_hang_2 {l : Launch} {G : GG} {M : MM} {a b : Int32} {dd : Nat} (hdd : dd ≤ 2) (h : Tt l G yX5_hang wsX5_hang dd ([.ref (G.2.2 72), .int a, .int b] : List Value) M "java/lang/IllegalArgumentException") : Cw l G yL_hang wsL_hang 12 ([.ref (G.2.2 72), .int (a), .int (b), .ref (G.2.2 90)] : List Value) M (rI (nI 2) M) := by
  refine Cw.of (cc := cL_hang) (maxL := 5) (ret := (some .int)) (lv := [(0, .ref (G.2.2 72)), (1, .int (a)), (2, .int (b)), (3, .ref (G.2.2 90))]) (by decide) rfl rfl (Nat.le_of_ble_eq_true rfl) ?_
  intro pg ev sg mm bl mt cd AZ C hXw htab hret
  refine j_aload_n C dL_hang_0 rfl ?_
  refine j_iconst C dL_hang_1 (v := nI 0) (by decide) ?_
  refine j_aload_n C dL_hang_2 rfl ?_
  refine j_iload_n C dL_hang_3 rfl ?_
  refine j_iload_n C dL_hang_4 rfl ?_
  refine j_callCV C hXw [⟨0, 10, 13, 13⟩] ⟨0, 10, 17, 15⟩ [] (htab.trans rfl) (fun z hz => by have e := List.mem_singleton.mp hz; subst e; exact Or.inr ⟨by decide, _, cl_L_hang_13, by decide +kernel⟩) rfl (by decide) cl_L_hang_15 (by decide +kernel) h dL_hang_5 rfl (by decide) (T := TX5) rfl gL_hang_X5_hang rfl kd_X5_hang rfl rfl (Nat.le_of_ble_eq_true rfl) ⟨by show dd + 6 + 1 ≤ 18; omega, by show 8 + (3 + 11) + (48 * dd + 96) ≤ 672; omega⟩ ⟨Nat.le_refl _, Nat.le_refl _⟩ (fun q9 => ?_)
  show J G pg l ev (rmX 12) sg mm _ bl mt cd AZ _ _ 1 6 17 _ _ _
  refine j_astore C dL_hang_17 (by decide) ?_
  refine j_iconst C dL_hang_19 (v := nI 2) (by decide) ?_
  exact j_ireturn C hret dL_hang_20 ⟨rfl, rfl⟩

set_option maxHeartbeats 4000000 in
set_option maxRecDepth 100000 in
theorem wo_takeDown {l : Launch} {G : GG} {M : MM} {a : Int32} {r : Int32} {P : MM → Prop} {dd : Nat} (hdd : dd ≤ 11) (h : Ct l G yX5_takeDown wsX5_takeDown dd ([.ref (G.2.2 72), .int a] : List Value) M (fun v9 M9 => v9 = some (.int r) ∧ P M9)) : Cw l G yL_takeDown wsL_takeDown 12 ([.ref (G.2.2 72), .int (a), .ref (G.2.2 90)] : List Value) M (fun v9 M9 => v9 = some (.int (nI 0)) ∧ ∃ M1, P M1 ∧ M9 = setO M1 (vp_updL M1.2.2.2 0 (r).toInt64)) := by
  refine Cw.of (cc := cL_takeDown) (maxL := 4) (ret := (some .int)) (lv := [(0, .ref (G.2.2 72)), (1, .int (a)), (2, .ref (G.2.2 90))]) (by decide) rfl rfl (Nat.le_of_ble_eq_true rfl) ?_
  intro pg ev sg mm bl mt cd AZ C hXw htab hret
  refine j_widen (k := 1) (n := 6) (Nat.zero_le _) (Nat.zero_le _) ?_
  refine j_aload_n C dL_takeDown_0 rfl ?_
  refine j_iconst C dL_takeDown_1 (v := nI 0) (by decide) ?_
  refine j_aload_n C dL_takeDown_2 rfl ?_
  refine j_iload_n C dL_takeDown_3 rfl ?_
  refine j_callV C h dL_takeDown_4 rfl (by decide) (T := TX5) rfl gL_takeDown_X5_takeDown rfl kd_X5_takeDown rfl rfl (Nat.le_of_ble_eq_true rfl) ⟨by show dd + 1 ≤ 18; omega, by show 8 + (3 + 11) + 48 * dd ≤ 672; omega⟩ ⟨Nat.le_refl _, Nat.le_refl _⟩ (k_IQ fun M1 hq => ?_)
  refine j_i2l C dL_takeDown_7 ?_
  refine j_last90 C dL_takeDown_8 (by decide) ?_
  refine j_goto C dL_takeDown_9 (tgt := 15) (by decide) ?_
  refine j_iconst C dL_takeDown_15 (v := nI 0) (by decide) ?_
  exact j_ireturn C hret dL_takeDown_16 ⟨rfl, M1, hq, rfl⟩

set_option maxHeartbeats 4000000 in
set_option maxRecDepth 100000 in
theorem we_takeDown_1 {l : Launch} {G : GG} {M : MM} {a : Int32} {dd : Nat} (hdd : dd ≤ 2) (h : Tt l G yX5_takeDown wsX5_takeDown dd ([.ref (G.2.2 72), .int a] : List Value) M "java/lang/IndexOutOfBoundsException") : Cw l G yL_takeDown wsL_takeDown 12 ([.ref (G.2.2 72), .int (a), .ref (G.2.2 90)] : List Value) M (rI (nI 1) M) := by
  refine Cw.of (cc := cL_takeDown) (maxL := 4) (ret := (some .int)) (lv := [(0, .ref (G.2.2 72)), (1, .int (a)), (2, .ref (G.2.2 90))]) (by decide) rfl rfl (Nat.le_of_ble_eq_true rfl) ?_
  intro pg ev sg mm bl mt cd AZ C hXw htab hret
  refine j_aload_n C dL_takeDown_0 rfl ?_
  refine j_iconst C dL_takeDown_1 (v := nI 0) (by decide) ?_
  refine j_aload_n C dL_takeDown_2 rfl ?_
  refine j_iload_n C dL_takeDown_3 rfl ?_
  refine j_callCV C hXw [] ⟨0, 9, 12, 13⟩ [] (htab.trans rfl) (fun _ hz => absurd hz List.not_mem_nil) rfl (by decide) cl_L_takeDown_13 (by decide +kernel) h dL_takeDown_4 rfl (by decide) (T := TX5) rfl gL_takeDown_X5_takeDown rfl kd_X5_takeDown rfl rfl (Nat.le_of_ble_eq_true rfl) ⟨by show dd + 6 + 1 ≤ 18; omega, by show 8 + (3 + 11) + (48 * dd + 96) ≤ 672; omega⟩ ⟨Nat.le_refl _, Nat.le_refl _⟩ (fun q9 => ?_)
  show J G pg l ev (rmX 12) sg mm _ bl mt cd AZ _ _ 1 6 12 _ _ _
  refine j_astore_n C dL_takeDown_12 (by decide) ?_
  refine j_iconst C dL_takeDown_13 (v := nI 1) (by decide) ?_
  exact j_ireturn C hret dL_takeDown_14 ⟨rfl, rfl⟩

set_option maxHeartbeats 4000000 in
set_option maxRecDepth 100000 in
theorem wo_correct {l : Launch} {G : GG} {M : MM} {a b : Int32} {r : Int32} {P : MM → Prop} {dd : Nat} (hdd : dd ≤ 11) (h : Ct l G yX5_correct wsX5_correct dd ([.ref (G.2.2 72), .int a, .int b] : List Value) M (fun v9 M9 => v9 = some (.int r) ∧ P M9)) : Cw l G yL_correct wsL_correct 12 ([.ref (G.2.2 72), .int (a), .int (b), .ref (G.2.2 90)] : List Value) M (fun v9 M9 => v9 = some (.int (nI 0)) ∧ ∃ M1, P M1 ∧ M9 = setO M1 (vp_updL M1.2.2.2 0 (r).toInt64)) := by
  refine Cw.of (cc := cL_correct) (maxL := 5) (ret := (some .int)) (lv := [(0, .ref (G.2.2 72)), (1, .int (a)), (2, .int (b)), (3, .ref (G.2.2 90))]) (by decide) rfl rfl (Nat.le_of_ble_eq_true rfl) ?_
  intro pg ev sg mm bl mt cd AZ C hXw htab hret
  refine j_widen (k := 1) (n := 6) (Nat.zero_le _) (Nat.zero_le _) ?_
  refine j_aload_n C dL_correct_0 rfl ?_
  refine j_iconst C dL_correct_1 (v := nI 0) (by decide) ?_
  refine j_aload_n C dL_correct_2 rfl ?_
  refine j_iload_n C dL_correct_3 rfl ?_
  refine j_iload_n C dL_correct_4 rfl ?_
  refine j_callV C h dL_correct_5 rfl (by decide) (T := TX5) rfl gL_correct_X5_correct rfl kd_X5_correct rfl rfl (Nat.le_of_ble_eq_true rfl) ⟨by show dd + 1 ≤ 18; omega, by show 8 + (3 + 11) + 48 * dd ≤ 672; omega⟩ ⟨Nat.le_refl _, Nat.le_refl _⟩ (k_IQ fun M1 hq => ?_)
  refine j_i2l C dL_correct_8 ?_
  refine j_last90 C dL_correct_9 (by decide) ?_
  refine j_goto C dL_correct_10 (tgt := 17) (by decide) ?_
  refine j_iconst C dL_correct_17 (v := nI 0) (by decide) ?_
  exact j_ireturn C hret dL_correct_18 ⟨rfl, M1, hq, rfl⟩

set_option maxHeartbeats 4000000 in
set_option maxRecDepth 100000 in
theorem we_correct_1 {l : Launch} {G : GG} {M : MM} {a b : Int32} {dd : Nat} (hdd : dd ≤ 2) (h : Tt l G yX5_correct wsX5_correct dd ([.ref (G.2.2 72), .int a, .int b] : List Value) M "java/lang/IndexOutOfBoundsException") : Cw l G yL_correct wsL_correct 12 ([.ref (G.2.2 72), .int (a), .int (b), .ref (G.2.2 90)] : List Value) M (rI (nI 1) M) := by
  refine Cw.of (cc := cL_correct) (maxL := 5) (ret := (some .int)) (lv := [(0, .ref (G.2.2 72)), (1, .int (a)), (2, .int (b)), (3, .ref (G.2.2 90))]) (by decide) rfl rfl (Nat.le_of_ble_eq_true rfl) ?_
  intro pg ev sg mm bl mt cd AZ C hXw htab hret
  refine j_aload_n C dL_correct_0 rfl ?_
  refine j_iconst C dL_correct_1 (v := nI 0) (by decide) ?_
  refine j_aload_n C dL_correct_2 rfl ?_
  refine j_iload_n C dL_correct_3 rfl ?_
  refine j_iload_n C dL_correct_4 rfl ?_
  refine j_callCV C hXw [] ⟨0, 10, 13, 13⟩ [] (htab.trans rfl) (fun _ hz => absurd hz List.not_mem_nil) rfl (by decide) cl_L_correct_13 (by decide +kernel) h dL_correct_5 rfl (by decide) (T := TX5) rfl gL_correct_X5_correct rfl kd_X5_correct rfl rfl (Nat.le_of_ble_eq_true rfl) ⟨by show dd + 6 + 1 ≤ 18; omega, by show 8 + (3 + 11) + (48 * dd + 96) ≤ 672; omega⟩ ⟨Nat.le_refl _, Nat.le_refl _⟩ (fun q9 => ?_)
  show J G pg l ev (rmX 12) sg mm _ bl mt cd AZ _ _ 1 6 13 _ _ _
  refine j_astore C dL_correct_13 (by decide) ?_
  refine j_iconst C dL_correct_15 (v := nI 1) (by decide) ?_
  exact j_ireturn C hret dL_correct_16 ⟨rfl, rfl⟩

set_option maxHeartbeats 4000000 in
set_option maxRecDepth 100000 in
theorem wo_append {l : Launch} {G : GG} {M : MM} {a : Int32} {r : Int32} {P : MM → Prop} {dd : Nat} (hdd : dd ≤ 11) (h : Ct l G yX5_append wsX5_append dd ([.ref (G.2.2 72), .int a] : List Value) M (fun v9 M9 => v9 = some (.int r) ∧ P M9)) : Cw l G yL_append wsL_append 12 ([.ref (G.2.2 72), .int (a), .ref (G.2.2 90)] : List Value) M (fun v9 M9 => v9 = some (.int (nI 0)) ∧ ∃ M1, P M1 ∧ M9 = setO M1 (vp_updL M1.2.2.2 0 (r).toInt64)) := by
  refine Cw.of (cc := cL_append) (maxL := 4) (ret := (some .int)) (lv := [(0, .ref (G.2.2 72)), (1, .int (a)), (2, .ref (G.2.2 90))]) (by decide) rfl rfl (Nat.le_of_ble_eq_true rfl) ?_
  intro pg ev sg mm bl mt cd AZ C hXw htab hret
  refine j_widen (k := 1) (n := 6) (Nat.zero_le _) (Nat.zero_le _) ?_
  refine j_aload_n C dL_append_0 rfl ?_
  refine j_iconst C dL_append_1 (v := nI 0) (by decide) ?_
  refine j_aload_n C dL_append_2 rfl ?_
  refine j_iload_n C dL_append_3 rfl ?_
  refine j_callV C h dL_append_4 rfl (by decide) (T := TX5) rfl gL_append_X5_append rfl kd_X5_append rfl rfl (Nat.le_of_ble_eq_true rfl) ⟨by show dd + 1 ≤ 18; omega, by show 8 + (2 + 11) + 48 * dd ≤ 672; omega⟩ ⟨Nat.le_refl _, Nat.le_refl _⟩ (k_IQ fun M1 hq => ?_)
  refine j_i2l C dL_append_7 ?_
  refine j_last90 C dL_append_8 (by decide) ?_
  refine j_goto C dL_append_9 (tgt := 18) (by decide) ?_
  refine j_iconst C dL_append_18 (v := nI 0) (by decide) ?_
  exact j_ireturn C hret dL_append_19 ⟨rfl, M1, hq, rfl⟩

set_option maxHeartbeats 4000000 in
set_option maxRecDepth 100000 in
theorem we_append_1 {l : Launch} {G : GG} {M : MM} {a : Int32} {dd : Nat} (hdd : dd ≤ 2) (h : Tt l G yX5_append wsX5_append dd ([.ref (G.2.2 72), .int a] : List Value) M "java/lang/IllegalArgumentException") : Cw l G yL_append wsL_append 12 ([.ref (G.2.2 72), .int (a), .ref (G.2.2 90)] : List Value) M (rI (nI 1) M) := by
  refine Cw.of (cc := cL_append) (maxL := 4) (ret := (some .int)) (lv := [(0, .ref (G.2.2 72)), (1, .int (a)), (2, .ref (G.2.2 90))]) (by decide) rfl rfl (Nat.le_of_ble_eq_true rfl) ?_
  intro pg ev sg mm bl mt cd AZ C hXw htab hret
  refine j_aload_n C dL_append_0 rfl ?_
  refine j_iconst C dL_append_1 (v := nI 0) (by decide) ?_
  refine j_aload_n C dL_append_2 rfl ?_
  refine j_iload_n C dL_append_3 rfl ?_
  refine j_callCV C hXw [] ⟨0, 9, 12, 15⟩ [⟨0, 9, 15, 43⟩] (htab.trans rfl) (fun _ hz => absurd hz List.not_mem_nil) rfl (by decide) cl_L_append_15 (by decide +kernel) h dL_append_4 rfl (by decide) (T := TX5) rfl gL_append_X5_append rfl kd_X5_append rfl rfl (Nat.le_of_ble_eq_true rfl) ⟨by show dd + 6 + 1 ≤ 18; omega, by show 8 + (2 + 11) + (48 * dd + 96) ≤ 672; omega⟩ ⟨Nat.le_refl _, Nat.le_refl _⟩ (fun q9 => ?_)
  show J G pg l ev (rmX 12) sg mm _ bl mt cd AZ _ _ 1 6 12 _ _ _
  refine j_astore_n C dL_append_12 (by decide) ?_
  refine j_iconst C dL_append_13 (v := nI 1) (by decide) ?_
  exact j_ireturn C hret dL_append_14 ⟨rfl, rfl⟩

set_option maxHeartbeats 4000000 in
set_option maxRecDepth 100000 in
theorem we_append_2 {l : Launch} {G : GG} {M : MM} {a : Int32} {dd : Nat} (hdd : dd ≤ 2) (h : Tt l G yX5_append wsX5_append dd ([.ref (G.2.2 72), .int a] : List Value) M "java/lang/IllegalStateException") : Cw l G yL_append wsL_append 12 ([.ref (G.2.2 72), .int (a), .ref (G.2.2 90)] : List Value) M (rI (nI 2) M) := by
  refine Cw.of (cc := cL_append) (maxL := 4) (ret := (some .int)) (lv := [(0, .ref (G.2.2 72)), (1, .int (a)), (2, .ref (G.2.2 90))]) (by decide) rfl rfl (Nat.le_of_ble_eq_true rfl) ?_
  intro pg ev sg mm bl mt cd AZ C hXw htab hret
  refine j_aload_n C dL_append_0 rfl ?_
  refine j_iconst C dL_append_1 (v := nI 0) (by decide) ?_
  refine j_aload_n C dL_append_2 rfl ?_
  refine j_iload_n C dL_append_3 rfl ?_
  refine j_callCV C hXw [⟨0, 9, 12, 15⟩] ⟨0, 9, 15, 43⟩ [] (htab.trans rfl) (fun z hz => by have e := List.mem_singleton.mp hz; subst e; exact Or.inr ⟨by decide, _, cl_L_append_15, by decide +kernel⟩) rfl (by decide) cl_L_append_43 (by decide +kernel) h dL_append_4 rfl (by decide) (T := TX5) rfl gL_append_X5_append rfl kd_X5_append rfl rfl (Nat.le_of_ble_eq_true rfl) ⟨by show dd + 6 + 1 ≤ 18; omega, by show 8 + (2 + 11) + (48 * dd + 96) ≤ 672; omega⟩ ⟨Nat.le_refl _, Nat.le_refl _⟩ (fun q9 => ?_)
  show J G pg l ev (rmX 12) sg mm _ bl mt cd AZ _ _ 1 6 15 _ _ _
  refine j_astore_n C dL_append_15 (by decide) ?_
  refine j_iconst C dL_append_16 (v := nI 2) (by decide) ?_
  exact j_ireturn C hret dL_append_17 ⟨rfl, rfl⟩

set_option maxHeartbeats 4000000 in
set_option maxRecDepth 100000 in
theorem wo_load {l : Launch} {G : GG} {M : MM} {r : Int32} {P : MM → Prop} {dd : Nat} (hdd : dd ≤ 11) (h : Ct l G yX5_load wsX5_load dd ([.ref (G.2.2 72)] : List Value) M (fun v9 M9 => v9 = some (.int r) ∧ P M9)) : Cw l G yL_load wsL_load 12 ([.ref (G.2.2 72), .ref (G.2.2 90)] : List Value) M (fun v9 M9 => v9 = some (.int (nI 0)) ∧ ∃ M1, P M1 ∧ M9 = setO M1 (vp_updL M1.2.2.2 0 (r).toInt64)) := by
  refine Cw.of (cc := cL_load) (maxL := 3) (ret := (some .int)) (lv := [(0, .ref (G.2.2 72)), (1, .ref (G.2.2 90))]) (by decide) rfl rfl (Nat.le_of_ble_eq_true rfl) ?_
  intro pg ev sg mm bl mt cd AZ C hXw htab hret
  refine j_widen (k := 1) (n := 6) (Nat.zero_le _) (Nat.zero_le _) ?_
  refine j_aload_n C dL_load_0 rfl ?_
  refine j_iconst C dL_load_1 (v := nI 0) (by decide) ?_
  refine j_aload_n C dL_load_2 rfl ?_
  refine j_callV C h dL_load_3 rfl (by decide) (T := TX5) rfl gL_load_X5_load rfl kd_X5_load rfl rfl (Nat.le_of_ble_eq_true rfl) ⟨by show dd + 1 ≤ 18; omega, by show 8 + (1 + 11) + 48 * dd ≤ 672; omega⟩ ⟨Nat.le_refl _, Nat.le_refl _⟩ (k_IQ fun M1 hq => ?_)
  refine j_i2l C dL_load_6 ?_
  refine j_last90 C dL_load_7 (by decide) ?_
  refine j_goto C dL_load_8 (tgt := 14) (by decide) ?_
  refine j_iconst C dL_load_14 (v := nI 0) (by decide) ?_
  exact j_ireturn C hret dL_load_15 ⟨rfl, M1, hq, rfl⟩

set_option maxHeartbeats 4000000 in
set_option maxRecDepth 100000 in
theorem we_load_1 {l : Launch} {G : GG} {M : MM} {dd : Nat} (hdd : dd ≤ 2) (h : Tt l G yX5_load wsX5_load dd ([.ref (G.2.2 72)] : List Value) M "java/lang/IllegalArgumentException") : Cw l G yL_load wsL_load 12 ([.ref (G.2.2 72), .ref (G.2.2 90)] : List Value) M (rI (nI 1) M) := by
  refine Cw.of (cc := cL_load) (maxL := 3) (ret := (some .int)) (lv := [(0, .ref (G.2.2 72)), (1, .ref (G.2.2 90))]) (by decide) rfl rfl (Nat.le_of_ble_eq_true rfl) ?_
  intro pg ev sg mm bl mt cd AZ C hXw htab hret
  refine j_aload_n C dL_load_0 rfl ?_
  refine j_iconst C dL_load_1 (v := nI 0) (by decide) ?_
  refine j_aload_n C dL_load_2 rfl ?_
  refine j_callCV C hXw [] ⟨0, 8, 11, 15⟩ [] (htab.trans rfl) (fun _ hz => absurd hz List.not_mem_nil) rfl (by decide) cl_L_load_15 (by decide +kernel) h dL_load_3 rfl (by decide) (T := TX5) rfl gL_load_X5_load rfl kd_X5_load rfl rfl (Nat.le_of_ble_eq_true rfl) ⟨by show dd + 6 + 1 ≤ 18; omega, by show 8 + (1 + 11) + (48 * dd + 96) ≤ 672; omega⟩ ⟨Nat.le_refl _, Nat.le_refl _⟩ (fun q9 => ?_)
  show J G pg l ev (rmX 12) sg mm _ bl mt cd AZ _ _ 1 6 11 _ _ _
  refine j_astore_n C dL_load_11 (by decide) ?_
  refine j_iconst C dL_load_12 (v := nI 1) (by decide) ?_
  exact j_ireturn C hret dL_load_13 ⟨rfl, rfl⟩

set_option maxHeartbeats 4000000 in
set_option maxRecDepth 100000 in
theorem wo_keep {l : Launch} {G : GG} {M : MM} {a : Int32} {r : Int32} {P : MM → Prop} {dd : Nat} (hdd : dd ≤ 11) (h : Ct l G yX5_keep wsX5_keep dd ([.ref (G.2.2 72), .int a] : List Value) M (fun v9 M9 => v9 = some (.int r) ∧ P M9)) : Cw l G yL_keep wsL_keep 12 ([.ref (G.2.2 72), .int (a), .ref (G.2.2 90)] : List Value) M (fun v9 M9 => v9 = some (.int (nI 0)) ∧ ∃ M1, P M1 ∧ M9 = setO M1 (vp_updL M1.2.2.2 0 (r).toInt64)) := by
  refine Cw.of (cc := cL_keep) (maxL := 4) (ret := (some .int)) (lv := [(0, .ref (G.2.2 72)), (1, .int (a)), (2, .ref (G.2.2 90))]) (by decide) rfl rfl (Nat.le_of_ble_eq_true rfl) ?_
  intro pg ev sg mm bl mt cd AZ C hXw htab hret
  refine j_widen (k := 1) (n := 6) (Nat.zero_le _) (Nat.zero_le _) ?_
  refine j_aload_n C dL_keep_0 rfl ?_
  refine j_iconst C dL_keep_1 (v := nI 0) (by decide) ?_
  refine j_aload_n C dL_keep_2 rfl ?_
  refine j_iload_n C dL_keep_3 rfl ?_
  refine j_callV C h dL_keep_4 rfl (by decide) (T := TX5) rfl gL_keep_X5_keep rfl kd_X5_keep rfl rfl (Nat.le_of_ble_eq_true rfl) ⟨by show dd + 1 ≤ 18; omega, by show 8 + (2 + 11) + 48 * dd ≤ 672; omega⟩ ⟨Nat.le_refl _, Nat.le_refl _⟩ (k_IQ fun M1 hq => ?_)
  refine j_i2l C dL_keep_7 ?_
  refine j_last90 C dL_keep_8 (by decide) ?_
  refine j_goto C dL_keep_9 (tgt := 15) (by decide) ?_
  refine j_iconst C dL_keep_15 (v := nI 0) (by decide) ?_
  exact j_ireturn C hret dL_keep_16 ⟨rfl, M1, hq, rfl⟩

set_option maxHeartbeats 4000000 in
set_option maxRecDepth 100000 in
theorem we_keep_1 {l : Launch} {G : GG} {M : MM} {a : Int32} {dd : Nat} (hdd : dd ≤ 2) (h : Tt l G yX5_keep wsX5_keep dd ([.ref (G.2.2 72), .int a] : List Value) M "java/lang/IllegalArgumentException") : Cw l G yL_keep wsL_keep 12 ([.ref (G.2.2 72), .int (a), .ref (G.2.2 90)] : List Value) M (rI (nI 1) M) := by
  refine Cw.of (cc := cL_keep) (maxL := 4) (ret := (some .int)) (lv := [(0, .ref (G.2.2 72)), (1, .int (a)), (2, .ref (G.2.2 90))]) (by decide) rfl rfl (Nat.le_of_ble_eq_true rfl) ?_
  intro pg ev sg mm bl mt cd AZ C hXw htab hret
  refine j_aload_n C dL_keep_0 rfl ?_
  refine j_iconst C dL_keep_1 (v := nI 0) (by decide) ?_
  refine j_aload_n C dL_keep_2 rfl ?_
  refine j_iload_n C dL_keep_3 rfl ?_
  refine j_callCV C hXw [] ⟨0, 9, 12, 15⟩ [] (htab.trans rfl) (fun _ hz => absurd hz List.not_mem_nil) rfl (by decide) cl_L_keep_15 (by decide +kernel) h dL_keep_4 rfl (by decide) (T := TX5) rfl gL_keep_X5_keep rfl kd_X5_keep rfl rfl (Nat.le_of_ble_eq_true rfl) ⟨by show dd + 6 + 1 ≤ 18; omega, by show 8 + (2 + 11) + (48 * dd + 96) ≤ 672; omega⟩ ⟨Nat.le_refl _, Nat.le_refl _⟩ (fun q9 => ?_)
  show J G pg l ev (rmX 12) sg mm _ bl mt cd AZ _ _ 1 6 12 _ _ _
  refine j_astore_n C dL_keep_12 (by decide) ?_
  refine j_iconst C dL_keep_13 (v := nI 1) (by decide) ?_
  exact j_ireturn C hret dL_keep_14 ⟨rfl, rfl⟩

set_option maxHeartbeats 4000000 in
set_option maxRecDepth 100000 in
theorem wo_goBack {l : Launch} {G : GG} {M : MM} {a : Int32} {r : Int32} {P : MM → Prop} {dd : Nat} (hdd : dd ≤ 11) (h : Ct l G yX5_goBack wsX5_goBack dd ([.ref (G.2.2 72), .int a] : List Value) M (fun v9 M9 => v9 = some (.int r) ∧ P M9)) : Cw l G yL_goBack wsL_goBack 12 ([.ref (G.2.2 72), .int (a), .ref (G.2.2 90)] : List Value) M (fun v9 M9 => v9 = some (.int (nI 0)) ∧ ∃ M1, P M1 ∧ M9 = setO M1 (vp_updL M1.2.2.2 0 (r).toInt64)) := by
  refine Cw.of (cc := cL_goBack) (maxL := 4) (ret := (some .int)) (lv := [(0, .ref (G.2.2 72)), (1, .int (a)), (2, .ref (G.2.2 90))]) (by decide) rfl rfl (Nat.le_of_ble_eq_true rfl) ?_
  intro pg ev sg mm bl mt cd AZ C hXw htab hret
  refine j_widen (k := 1) (n := 6) (Nat.zero_le _) (Nat.zero_le _) ?_
  refine j_aload_n C dL_goBack_0 rfl ?_
  refine j_iconst C dL_goBack_1 (v := nI 0) (by decide) ?_
  refine j_aload_n C dL_goBack_2 rfl ?_
  refine j_iload_n C dL_goBack_3 rfl ?_
  refine j_callV C h dL_goBack_4 rfl (by decide) (T := TX5) rfl gL_goBack_X5_goBack rfl kd_X5_goBack rfl rfl (Nat.le_of_ble_eq_true rfl) ⟨by show dd + 1 ≤ 18; omega, by show 8 + (2 + 11) + 48 * dd ≤ 672; omega⟩ ⟨Nat.le_refl _, Nat.le_refl _⟩ (k_IQ fun M1 hq => ?_)
  refine j_i2l C dL_goBack_7 ?_
  refine j_last90 C dL_goBack_8 (by decide) ?_
  refine j_goto C dL_goBack_9 (tgt := 18) (by decide) ?_
  refine j_iconst C dL_goBack_18 (v := nI 0) (by decide) ?_
  exact j_ireturn C hret dL_goBack_19 ⟨rfl, M1, hq, rfl⟩

set_option maxHeartbeats 4000000 in
set_option maxRecDepth 100000 in
theorem we_goBack_1 {l : Launch} {G : GG} {M : MM} {a : Int32} {dd : Nat} (hdd : dd ≤ 2) (h : Tt l G yX5_goBack wsX5_goBack dd ([.ref (G.2.2 72), .int a] : List Value) M "java/lang/IllegalArgumentException") : Cw l G yL_goBack wsL_goBack 12 ([.ref (G.2.2 72), .int (a), .ref (G.2.2 90)] : List Value) M (rI (nI 1) M) := by
  refine Cw.of (cc := cL_goBack) (maxL := 4) (ret := (some .int)) (lv := [(0, .ref (G.2.2 72)), (1, .int (a)), (2, .ref (G.2.2 90))]) (by decide) rfl rfl (Nat.le_of_ble_eq_true rfl) ?_
  intro pg ev sg mm bl mt cd AZ C hXw htab hret
  refine j_aload_n C dL_goBack_0 rfl ?_
  refine j_iconst C dL_goBack_1 (v := nI 0) (by decide) ?_
  refine j_aload_n C dL_goBack_2 rfl ?_
  refine j_iload_n C dL_goBack_3 rfl ?_
  refine j_callCV C hXw [] ⟨0, 9, 12, 15⟩ [⟨0, 9, 15, 43⟩] (htab.trans rfl) (fun _ hz => absurd hz List.not_mem_nil) rfl (by decide) cl_L_goBack_15 (by decide +kernel) h dL_goBack_4 rfl (by decide) (T := TX5) rfl gL_goBack_X5_goBack rfl kd_X5_goBack rfl rfl (Nat.le_of_ble_eq_true rfl) ⟨by show dd + 6 + 1 ≤ 18; omega, by show 8 + (2 + 11) + (48 * dd + 96) ≤ 672; omega⟩ ⟨Nat.le_refl _, Nat.le_refl _⟩ (fun q9 => ?_)
  show J G pg l ev (rmX 12) sg mm _ bl mt cd AZ _ _ 1 6 12 _ _ _
  refine j_astore_n C dL_goBack_12 (by decide) ?_
  refine j_iconst C dL_goBack_13 (v := nI 1) (by decide) ?_
  exact j_ireturn C hret dL_goBack_14 ⟨rfl, rfl⟩

set_option maxHeartbeats 4000000 in
set_option maxRecDepth 100000 in
theorem we_goBack_2 {l : Launch} {G : GG} {M : MM} {a : Int32} {dd : Nat} (hdd : dd ≤ 2) (h : Tt l G yX5_goBack wsX5_goBack dd ([.ref (G.2.2 72), .int a] : List Value) M "java/lang/IllegalStateException") : Cw l G yL_goBack wsL_goBack 12 ([.ref (G.2.2 72), .int (a), .ref (G.2.2 90)] : List Value) M (rI (nI 2) M) := by
  refine Cw.of (cc := cL_goBack) (maxL := 4) (ret := (some .int)) (lv := [(0, .ref (G.2.2 72)), (1, .int (a)), (2, .ref (G.2.2 90))]) (by decide) rfl rfl (Nat.le_of_ble_eq_true rfl) ?_
  intro pg ev sg mm bl mt cd AZ C hXw htab hret
  refine j_aload_n C dL_goBack_0 rfl ?_
  refine j_iconst C dL_goBack_1 (v := nI 0) (by decide) ?_
  refine j_aload_n C dL_goBack_2 rfl ?_
  refine j_iload_n C dL_goBack_3 rfl ?_
  refine j_callCV C hXw [⟨0, 9, 12, 15⟩] ⟨0, 9, 15, 43⟩ [] (htab.trans rfl) (fun z hz => by have e := List.mem_singleton.mp hz; subst e; exact Or.inr ⟨by decide, _, cl_L_goBack_15, by decide +kernel⟩) rfl (by decide) cl_L_goBack_43 (by decide +kernel) h dL_goBack_4 rfl (by decide) (T := TX5) rfl gL_goBack_X5_goBack rfl kd_X5_goBack rfl rfl (Nat.le_of_ble_eq_true rfl) ⟨by show dd + 6 + 1 ≤ 18; omega, by show 8 + (2 + 11) + (48 * dd + 96) ≤ 672; omega⟩ ⟨Nat.le_refl _, Nat.le_refl _⟩ (fun q9 => ?_)
  show J G pg l ev (rmX 12) sg mm _ bl mt cd AZ _ _ 1 6 15 _ _ _
  refine j_astore_n C dL_goBack_15 (by decide) ?_
  refine j_iconst C dL_goBack_16 (v := nI 2) (by decide) ?_
  exact j_ireturn C hret dL_goBack_17 ⟨rfl, rfl⟩

set_option maxHeartbeats 4000000 in
set_option maxRecDepth 100000 in
theorem wo_undo {l : Launch} {G : GG} {M : MM} {r : Int32} {P : MM → Prop} {dd : Nat} (hdd : dd ≤ 11) (h : Ct l G yX5_undo wsX5_undo dd ([.ref (G.2.2 72)] : List Value) M (fun v9 M9 => v9 = some (.int r) ∧ P M9)) : Cw l G yL_undo wsL_undo 12 ([.ref (G.2.2 72), .ref (G.2.2 90)] : List Value) M (fun v9 M9 => v9 = some (.int (nI 0)) ∧ ∃ M1, P M1 ∧ M9 = setO M1 (vp_updL M1.2.2.2 0 (r).toInt64)) := by
  refine Cw.of (cc := cL_undo) (maxL := 3) (ret := (some .int)) (lv := [(0, .ref (G.2.2 72)), (1, .ref (G.2.2 90))]) (by decide) rfl rfl (Nat.le_of_ble_eq_true rfl) ?_
  intro pg ev sg mm bl mt cd AZ C hXw htab hret
  refine j_widen (k := 1) (n := 6) (Nat.zero_le _) (Nat.zero_le _) ?_
  refine j_aload_n C dL_undo_0 rfl ?_
  refine j_iconst C dL_undo_1 (v := nI 0) (by decide) ?_
  refine j_aload_n C dL_undo_2 rfl ?_
  refine j_callV C h dL_undo_3 rfl (by decide) (T := TX5) rfl gL_undo_X5_undo rfl kd_X5_undo rfl rfl (Nat.le_of_ble_eq_true rfl) ⟨by show dd + 1 ≤ 18; omega, by show 8 + (1 + 11) + 48 * dd ≤ 672; omega⟩ ⟨Nat.le_refl _, Nat.le_refl _⟩ (k_IQ fun M1 hq => ?_)
  refine j_i2l C dL_undo_6 ?_
  refine j_last90 C dL_undo_7 (by decide) ?_
  refine j_goto C dL_undo_8 (tgt := 14) (by decide) ?_
  refine j_iconst C dL_undo_14 (v := nI 0) (by decide) ?_
  exact j_ireturn C hret dL_undo_15 ⟨rfl, M1, hq, rfl⟩

set_option maxHeartbeats 4000000 in
set_option maxRecDepth 100000 in
theorem we_undo_1 {l : Launch} {G : GG} {M : MM} {dd : Nat} (hdd : dd ≤ 2) (h : Tt l G yX5_undo wsX5_undo dd ([.ref (G.2.2 72)] : List Value) M "java/lang/IllegalStateException") : Cw l G yL_undo wsL_undo 12 ([.ref (G.2.2 72), .ref (G.2.2 90)] : List Value) M (rI (nI 1) M) := by
  refine Cw.of (cc := cL_undo) (maxL := 3) (ret := (some .int)) (lv := [(0, .ref (G.2.2 72)), (1, .ref (G.2.2 90))]) (by decide) rfl rfl (Nat.le_of_ble_eq_true rfl) ?_
  intro pg ev sg mm bl mt cd AZ C hXw htab hret
  refine j_aload_n C dL_undo_0 rfl ?_
  refine j_iconst C dL_undo_1 (v := nI 0) (by decide) ?_
  refine j_aload_n C dL_undo_2 rfl ?_
  refine j_callCV C hXw [] ⟨0, 8, 11, 43⟩ [] (htab.trans rfl) (fun _ hz => absurd hz List.not_mem_nil) rfl (by decide) cl_L_undo_43 (by decide +kernel) h dL_undo_3 rfl (by decide) (T := TX5) rfl gL_undo_X5_undo rfl kd_X5_undo rfl rfl (Nat.le_of_ble_eq_true rfl) ⟨by show dd + 6 + 1 ≤ 18; omega, by show 8 + (1 + 11) + (48 * dd + 96) ≤ 672; omega⟩ ⟨Nat.le_refl _, Nat.le_refl _⟩ (fun q9 => ?_)
  show J G pg l ev (rmX 12) sg mm _ bl mt cd AZ _ _ 1 6 11 _ _ _
  refine j_astore_n C dL_undo_11 (by decide) ?_
  refine j_iconst C dL_undo_12 (v := nI 1) (by decide) ?_
  exact j_ireturn C hret dL_undo_13 ⟨rfl, rfl⟩

set_option maxHeartbeats 4000000 in
set_option maxRecDepth 100000 in
theorem wo_potOf {l : Launch} {G : GG} {M : MM} {a b : Int32} {r : Int32} {P : MM → Prop} {dd : Nat} (hdd : dd ≤ 11) (h : Ct l G yX5_potOf wsX5_potOf dd ([.ref (G.2.2 72), .int a, .int b] : List Value) M (fun v9 M9 => v9 = some (.int r) ∧ P M9)) : Cw l G yL_potOf wsL_potOf 12 ([.ref (G.2.2 72), .int (a), .int (b), .ref (G.2.2 90)] : List Value) M (fun v9 M9 => v9 = some (.int (nI 0)) ∧ ∃ M1, P M1 ∧ M9 = setO M1 (vp_updL M1.2.2.2 0 (r).toInt64)) := by
  refine Cw.of (cc := cL_potOf) (maxL := 5) (ret := (some .int)) (lv := [(0, .ref (G.2.2 72)), (1, .int (a)), (2, .int (b)), (3, .ref (G.2.2 90))]) (by decide) rfl rfl (Nat.le_of_ble_eq_true rfl) ?_
  intro pg ev sg mm bl mt cd AZ C hXw htab hret
  refine j_widen (k := 1) (n := 6) (Nat.zero_le _) (Nat.zero_le _) ?_
  refine j_aload_n C dL_potOf_0 rfl ?_
  refine j_iconst C dL_potOf_1 (v := nI 0) (by decide) ?_
  refine j_aload_n C dL_potOf_2 rfl ?_
  refine j_iload_n C dL_potOf_3 rfl ?_
  refine j_iload_n C dL_potOf_4 rfl ?_
  refine j_callV C h dL_potOf_5 rfl (by decide) (T := TX5) rfl gL_potOf_X5_potOf rfl kd_X5_potOf rfl rfl (Nat.le_of_ble_eq_true rfl) ⟨by show dd + 1 ≤ 18; omega, by show 8 + (3 + 11) + 48 * dd ≤ 672; omega⟩ ⟨Nat.le_refl _, Nat.le_refl _⟩ (k_IQ fun M1 hq => ?_)
  refine j_i2l C dL_potOf_8 ?_
  refine j_last90 C dL_potOf_9 (by decide) ?_
  refine j_goto C dL_potOf_10 (tgt := 21) (by decide) ?_
  refine j_iconst C dL_potOf_21 (v := nI 0) (by decide) ?_
  exact j_ireturn C hret dL_potOf_22 ⟨rfl, M1, hq, rfl⟩

set_option maxHeartbeats 4000000 in
set_option maxRecDepth 100000 in
theorem we_potOf_1 {l : Launch} {G : GG} {M : MM} {a b : Int32} {dd : Nat} (hdd : dd ≤ 2) (h : Tt l G yX5_potOf wsX5_potOf dd ([.ref (G.2.2 72), .int a, .int b] : List Value) M "java/lang/IndexOutOfBoundsException") : Cw l G yL_potOf wsL_potOf 12 ([.ref (G.2.2 72), .int (a), .int (b), .ref (G.2.2 90)] : List Value) M (rI (nI 1) M) := by
  refine Cw.of (cc := cL_potOf) (maxL := 5) (ret := (some .int)) (lv := [(0, .ref (G.2.2 72)), (1, .int (a)), (2, .int (b)), (3, .ref (G.2.2 90))]) (by decide) rfl rfl (Nat.le_of_ble_eq_true rfl) ?_
  intro pg ev sg mm bl mt cd AZ C hXw htab hret
  refine j_aload_n C dL_potOf_0 rfl ?_
  refine j_iconst C dL_potOf_1 (v := nI 0) (by decide) ?_
  refine j_aload_n C dL_potOf_2 rfl ?_
  refine j_iload_n C dL_potOf_3 rfl ?_
  refine j_iload_n C dL_potOf_4 rfl ?_
  refine j_callCV C hXw [] ⟨0, 10, 13, 13⟩ [⟨0, 10, 17, 15⟩] (htab.trans rfl) (fun _ hz => absurd hz List.not_mem_nil) rfl (by decide) cl_L_potOf_13 (by decide +kernel) h dL_potOf_5 rfl (by decide) (T := TX5) rfl gL_potOf_X5_potOf rfl kd_X5_potOf rfl rfl (Nat.le_of_ble_eq_true rfl) ⟨by show dd + 6 + 1 ≤ 18; omega, by show 8 + (3 + 11) + (48 * dd + 96) ≤ 672; omega⟩ ⟨Nat.le_refl _, Nat.le_refl _⟩ (fun q9 => ?_)
  show J G pg l ev (rmX 12) sg mm _ bl mt cd AZ _ _ 1 6 13 _ _ _
  refine j_astore C dL_potOf_13 (by decide) ?_
  refine j_iconst C dL_potOf_15 (v := nI 1) (by decide) ?_
  exact j_ireturn C hret dL_potOf_16 ⟨rfl, rfl⟩

set_option maxHeartbeats 4000000 in
set_option maxRecDepth 100000 in
theorem we_potOf_2 {l : Launch} {G : GG} {M : MM} {a b : Int32} {dd : Nat} (hdd : dd ≤ 2) (h : Tt l G yX5_potOf wsX5_potOf dd ([.ref (G.2.2 72), .int a, .int b] : List Value) M "java/lang/IllegalArgumentException") : Cw l G yL_potOf wsL_potOf 12 ([.ref (G.2.2 72), .int (a), .int (b), .ref (G.2.2 90)] : List Value) M (rI (nI 2) M) := by
  refine Cw.of (cc := cL_potOf) (maxL := 5) (ret := (some .int)) (lv := [(0, .ref (G.2.2 72)), (1, .int (a)), (2, .int (b)), (3, .ref (G.2.2 90))]) (by decide) rfl rfl (Nat.le_of_ble_eq_true rfl) ?_
  intro pg ev sg mm bl mt cd AZ C hXw htab hret
  refine j_aload_n C dL_potOf_0 rfl ?_
  refine j_iconst C dL_potOf_1 (v := nI 0) (by decide) ?_
  refine j_aload_n C dL_potOf_2 rfl ?_
  refine j_iload_n C dL_potOf_3 rfl ?_
  refine j_iload_n C dL_potOf_4 rfl ?_
  refine j_callCV C hXw [⟨0, 10, 13, 13⟩] ⟨0, 10, 17, 15⟩ [] (htab.trans rfl) (fun z hz => by have e := List.mem_singleton.mp hz; subst e; exact Or.inr ⟨by decide, _, cl_L_potOf_13, by decide +kernel⟩) rfl (by decide) cl_L_potOf_15 (by decide +kernel) h dL_potOf_5 rfl (by decide) (T := TX5) rfl gL_potOf_X5_potOf rfl kd_X5_potOf rfl rfl (Nat.le_of_ble_eq_true rfl) ⟨by show dd + 6 + 1 ≤ 18; omega, by show 8 + (3 + 11) + (48 * dd + 96) ≤ 672; omega⟩ ⟨Nat.le_refl _, Nat.le_refl _⟩ (fun q9 => ?_)
  show J G pg l ev (rmX 12) sg mm _ bl mt cd AZ _ _ 1 6 17 _ _ _
  refine j_astore C dL_potOf_17 (by decide) ?_
  refine j_iconst C dL_potOf_19 (v := nI 2) (by decide) ?_
  exact j_ireturn C hret dL_potOf_20 ⟨rfl, rfl⟩

set_option maxHeartbeats 4000000 in
set_option maxRecDepth 100000 in
theorem wo_seen {l : Launch} {G : GG} {M : MM} {a b : Int32} {r : Int32} {P : MM → Prop} {dd : Nat} (hdd : dd ≤ 11) (h : Ct l G yX5_seen wsX5_seen dd ([.ref (G.2.2 72), .int a, .int b] : List Value) M (fun v9 M9 => v9 = some (.int r) ∧ P M9)) : Cw l G yL_seen wsL_seen 12 ([.ref (G.2.2 72), .int (a), .int (b), .ref (G.2.2 90)] : List Value) M (fun v9 M9 => v9 = some (.int (nI 0)) ∧ ∃ M1, P M1 ∧ M9 = setO M1 (vp_updL M1.2.2.2 0 (r).toInt64)) := by
  refine Cw.of (cc := cL_seen) (maxL := 5) (ret := (some .int)) (lv := [(0, .ref (G.2.2 72)), (1, .int (a)), (2, .int (b)), (3, .ref (G.2.2 90))]) (by decide) rfl rfl (Nat.le_of_ble_eq_true rfl) ?_
  intro pg ev sg mm bl mt cd AZ C hXw htab hret
  refine j_widen (k := 1) (n := 6) (Nat.zero_le _) (Nat.zero_le _) ?_
  refine j_aload_n C dL_seen_0 rfl ?_
  refine j_iconst C dL_seen_1 (v := nI 0) (by decide) ?_
  refine j_aload_n C dL_seen_2 rfl ?_
  refine j_iload_n C dL_seen_3 rfl ?_
  refine j_iload_n C dL_seen_4 rfl ?_
  refine j_callV C h dL_seen_5 rfl (by decide) (T := TX5) rfl gL_seen_X5_seen rfl kd_X5_seen rfl rfl (Nat.le_of_ble_eq_true rfl) ⟨by show dd + 1 ≤ 18; omega, by show 8 + (3 + 11) + 48 * dd ≤ 672; omega⟩ ⟨Nat.le_refl _, Nat.le_refl _⟩ (k_IQ fun M1 hq => ?_)
  refine j_i2l C dL_seen_8 ?_
  refine j_last90 C dL_seen_9 (by decide) ?_
  refine j_goto C dL_seen_10 (tgt := 17) (by decide) ?_
  refine j_iconst C dL_seen_17 (v := nI 0) (by decide) ?_
  exact j_ireturn C hret dL_seen_18 ⟨rfl, M1, hq, rfl⟩

set_option maxHeartbeats 4000000 in
set_option maxRecDepth 100000 in
theorem we_seen_1 {l : Launch} {G : GG} {M : MM} {a b : Int32} {dd : Nat} (hdd : dd ≤ 2) (h : Tt l G yX5_seen wsX5_seen dd ([.ref (G.2.2 72), .int a, .int b] : List Value) M "java/lang/IndexOutOfBoundsException") : Cw l G yL_seen wsL_seen 12 ([.ref (G.2.2 72), .int (a), .int (b), .ref (G.2.2 90)] : List Value) M (rI (nI 1) M) := by
  refine Cw.of (cc := cL_seen) (maxL := 5) (ret := (some .int)) (lv := [(0, .ref (G.2.2 72)), (1, .int (a)), (2, .int (b)), (3, .ref (G.2.2 90))]) (by decide) rfl rfl (Nat.le_of_ble_eq_true rfl) ?_
  intro pg ev sg mm bl mt cd AZ C hXw htab hret
  refine j_aload_n C dL_seen_0 rfl ?_
  refine j_iconst C dL_seen_1 (v := nI 0) (by decide) ?_
  refine j_aload_n C dL_seen_2 rfl ?_
  refine j_iload_n C dL_seen_3 rfl ?_
  refine j_iload_n C dL_seen_4 rfl ?_
  refine j_callCV C hXw [] ⟨0, 10, 13, 13⟩ [] (htab.trans rfl) (fun _ hz => absurd hz List.not_mem_nil) rfl (by decide) cl_L_seen_13 (by decide +kernel) h dL_seen_5 rfl (by decide) (T := TX5) rfl gL_seen_X5_seen rfl kd_X5_seen rfl rfl (Nat.le_of_ble_eq_true rfl) ⟨by show dd + 6 + 1 ≤ 18; omega, by show 8 + (3 + 11) + (48 * dd + 96) ≤ 672; omega⟩ ⟨Nat.le_refl _, Nat.le_refl _⟩ (fun q9 => ?_)
  show J G pg l ev (rmX 12) sg mm _ bl mt cd AZ _ _ 1 6 13 _ _ _
  refine j_astore C dL_seen_13 (by decide) ?_
  refine j_iconst C dL_seen_15 (v := nI 1) (by decide) ?_
  exact j_ireturn C hret dL_seen_16 ⟨rfl, rfl⟩

set_option maxHeartbeats 4000000 in
set_option maxRecDepth 100000 in
theorem wo_painterOf {l : Launch} {G : GG} {M : MM} {a b : Int32} {r : Int32} {P : MM → Prop} {dd : Nat} (hdd : dd ≤ 11) (h : Ct l G yX5_painterOf wsX5_painterOf dd ([.ref (G.2.2 72), .int a, .int b] : List Value) M (fun v9 M9 => v9 = some (.int r) ∧ P M9)) : Cw l G yL_painterOf wsL_painterOf 12 ([.ref (G.2.2 72), .int (a), .int (b), .ref (G.2.2 90)] : List Value) M (fun v9 M9 => v9 = some (.int (nI 0)) ∧ ∃ M1, P M1 ∧ M9 = setO M1 (vp_updL M1.2.2.2 0 (r).toInt64)) := by
  refine Cw.of (cc := cL_painterOf) (maxL := 5) (ret := (some .int)) (lv := [(0, .ref (G.2.2 72)), (1, .int (a)), (2, .int (b)), (3, .ref (G.2.2 90))]) (by decide) rfl rfl (Nat.le_of_ble_eq_true rfl) ?_
  intro pg ev sg mm bl mt cd AZ C hXw htab hret
  refine j_widen (k := 1) (n := 6) (Nat.zero_le _) (Nat.zero_le _) ?_
  refine j_aload_n C dL_painterOf_0 rfl ?_
  refine j_iconst C dL_painterOf_1 (v := nI 0) (by decide) ?_
  refine j_aload_n C dL_painterOf_2 rfl ?_
  refine j_iload_n C dL_painterOf_3 rfl ?_
  refine j_iload_n C dL_painterOf_4 rfl ?_
  refine j_callV C h dL_painterOf_5 rfl (by decide) (T := TX5) rfl gL_painterOf_X5_painterOf rfl kd_X5_painterOf rfl rfl (Nat.le_of_ble_eq_true rfl) ⟨by show dd + 1 ≤ 18; omega, by show 8 + (3 + 11) + 48 * dd ≤ 672; omega⟩ ⟨Nat.le_refl _, Nat.le_refl _⟩ (k_IQ fun M1 hq => ?_)
  refine j_i2l C dL_painterOf_8 ?_
  refine j_last90 C dL_painterOf_9 (by decide) ?_
  refine j_goto C dL_painterOf_10 (tgt := 21) (by decide) ?_
  refine j_iconst C dL_painterOf_21 (v := nI 0) (by decide) ?_
  exact j_ireturn C hret dL_painterOf_22 ⟨rfl, M1, hq, rfl⟩

set_option maxHeartbeats 4000000 in
set_option maxRecDepth 100000 in
theorem we_painterOf_1 {l : Launch} {G : GG} {M : MM} {a b : Int32} {dd : Nat} (hdd : dd ≤ 2) (h : Tt l G yX5_painterOf wsX5_painterOf dd ([.ref (G.2.2 72), .int a, .int b] : List Value) M "java/lang/IndexOutOfBoundsException") : Cw l G yL_painterOf wsL_painterOf 12 ([.ref (G.2.2 72), .int (a), .int (b), .ref (G.2.2 90)] : List Value) M (rI (nI 1) M) := by
  refine Cw.of (cc := cL_painterOf) (maxL := 5) (ret := (some .int)) (lv := [(0, .ref (G.2.2 72)), (1, .int (a)), (2, .int (b)), (3, .ref (G.2.2 90))]) (by decide) rfl rfl (Nat.le_of_ble_eq_true rfl) ?_
  intro pg ev sg mm bl mt cd AZ C hXw htab hret
  refine j_aload_n C dL_painterOf_0 rfl ?_
  refine j_iconst C dL_painterOf_1 (v := nI 0) (by decide) ?_
  refine j_aload_n C dL_painterOf_2 rfl ?_
  refine j_iload_n C dL_painterOf_3 rfl ?_
  refine j_iload_n C dL_painterOf_4 rfl ?_
  refine j_callCV C hXw [] ⟨0, 10, 13, 13⟩ [⟨0, 10, 17, 15⟩] (htab.trans rfl) (fun _ hz => absurd hz List.not_mem_nil) rfl (by decide) cl_L_painterOf_13 (by decide +kernel) h dL_painterOf_5 rfl (by decide) (T := TX5) rfl gL_painterOf_X5_painterOf rfl kd_X5_painterOf rfl rfl (Nat.le_of_ble_eq_true rfl) ⟨by show dd + 6 + 1 ≤ 18; omega, by show 8 + (3 + 11) + (48 * dd + 96) ≤ 672; omega⟩ ⟨Nat.le_refl _, Nat.le_refl _⟩ (fun q9 => ?_)
  show J G pg l ev (rmX 12) sg mm _ bl mt cd AZ _ _ 1 6 13 _ _ _
  refine j_astore C dL_painterOf_13 (by decide) ?_
  refine j_iconst C dL_painterOf_15 (v := nI 1) (by decide) ?_
  exact j_ireturn C hret dL_painterOf_16 ⟨rfl, rfl⟩

set_option maxHeartbeats 4000000 in
set_option maxRecDepth 100000 in
theorem we_painterOf_2 {l : Launch} {G : GG} {M : MM} {a b : Int32} {dd : Nat} (hdd : dd ≤ 2) (h : Tt l G yX5_painterOf wsX5_painterOf dd ([.ref (G.2.2 72), .int a, .int b] : List Value) M "java/lang/IllegalArgumentException") : Cw l G yL_painterOf wsL_painterOf 12 ([.ref (G.2.2 72), .int (a), .int (b), .ref (G.2.2 90)] : List Value) M (rI (nI 2) M) := by
  refine Cw.of (cc := cL_painterOf) (maxL := 5) (ret := (some .int)) (lv := [(0, .ref (G.2.2 72)), (1, .int (a)), (2, .int (b)), (3, .ref (G.2.2 90))]) (by decide) rfl rfl (Nat.le_of_ble_eq_true rfl) ?_
  intro pg ev sg mm bl mt cd AZ C hXw htab hret
  refine j_aload_n C dL_painterOf_0 rfl ?_
  refine j_iconst C dL_painterOf_1 (v := nI 0) (by decide) ?_
  refine j_aload_n C dL_painterOf_2 rfl ?_
  refine j_iload_n C dL_painterOf_3 rfl ?_
  refine j_iload_n C dL_painterOf_4 rfl ?_
  refine j_callCV C hXw [⟨0, 10, 13, 13⟩] ⟨0, 10, 17, 15⟩ [] (htab.trans rfl) (fun z hz => by have e := List.mem_singleton.mp hz; subst e; exact Or.inr ⟨by decide, _, cl_L_painterOf_13, by decide +kernel⟩) rfl (by decide) cl_L_painterOf_15 (by decide +kernel) h dL_painterOf_5 rfl (by decide) (T := TX5) rfl gL_painterOf_X5_painterOf rfl kd_X5_painterOf rfl rfl (Nat.le_of_ble_eq_true rfl) ⟨by show dd + 6 + 1 ≤ 18; omega, by show 8 + (3 + 11) + (48 * dd + 96) ≤ 672; omega⟩ ⟨Nat.le_refl _, Nat.le_refl _⟩ (fun q9 => ?_)
  show J G pg l ev (rmX 12) sg mm _ bl mt cd AZ _ _ 1 6 17 _ _ _
  refine j_astore C dL_painterOf_17 (by decide) ?_
  refine j_iconst C dL_painterOf_19 (v := nI 2) (by decide) ?_
  exact j_ireturn C hret dL_painterOf_20 ⟨rfl, rfl⟩

set_option maxHeartbeats 4000000 in
set_option maxRecDepth 100000 in
theorem wo_apart {l : Launch} {G : GG} {M : MM} {a b d : Int32} {r : Int32} {P : MM → Prop} {dd : Nat} (hdd : dd ≤ 11) (h : Ct l G yX5_apart wsX5_apart dd ([.ref (G.2.2 72), .int a, .int b, .int d] : List Value) M (fun v9 M9 => v9 = some (.int r) ∧ P M9)) : Cw l G yL_apart wsL_apart 12 ([.ref (G.2.2 72), .int (a), .int (b), .int (d), .ref (G.2.2 90)] : List Value) M (fun v9 M9 => v9 = some (.int (nI 0)) ∧ ∃ M1, P M1 ∧ M9 = setO M1 (vp_updL M1.2.2.2 0 (r).toInt64)) := by
  refine Cw.of (cc := cL_apart) (maxL := 6) (ret := (some .int)) (lv := [(0, .ref (G.2.2 72)), (1, .int (a)), (2, .int (b)), (3, .int (d)), (4, .ref (G.2.2 90))]) (by decide) rfl rfl (Nat.le_of_ble_eq_true rfl) ?_
  intro pg ev sg mm bl mt cd AZ C hXw htab hret
  refine j_widen (k := 1) (n := 6) (Nat.zero_le _) (Nat.zero_le _) ?_
  refine j_aload C dL_apart_0 rfl ?_
  refine j_iconst C dL_apart_2 (v := nI 0) (by decide) ?_
  refine j_aload_n C dL_apart_3 rfl ?_
  refine j_iload_n C dL_apart_4 rfl ?_
  refine j_iload_n C dL_apart_5 rfl ?_
  refine j_iload_n C dL_apart_6 rfl ?_
  refine j_callV C h dL_apart_7 rfl (by decide) (T := TX5) rfl gL_apart_X5_apart rfl kd_X5_apart rfl rfl (Nat.le_of_ble_eq_true rfl) ⟨by show dd + 1 ≤ 18; omega, by show 8 + (4 + 11) + 48 * dd ≤ 672; omega⟩ ⟨Nat.le_refl _, Nat.le_refl _⟩ (k_IQ fun M1 hq => ?_)
  refine j_i2l C dL_apart_10 ?_
  refine j_last90 C dL_apart_11 (by decide) ?_
  refine j_goto C dL_apart_12 (tgt := 19) (by decide) ?_
  refine j_iconst C dL_apart_19 (v := nI 0) (by decide) ?_
  exact j_ireturn C hret dL_apart_20 ⟨rfl, M1, hq, rfl⟩

set_option maxHeartbeats 4000000 in
set_option maxRecDepth 100000 in
theorem we_apart_1 {l : Launch} {G : GG} {M : MM} {a b d : Int32} {dd : Nat} (hdd : dd ≤ 2) (h : Tt l G yX5_apart wsX5_apart dd ([.ref (G.2.2 72), .int a, .int b, .int d] : List Value) M "java/lang/IndexOutOfBoundsException") : Cw l G yL_apart wsL_apart 12 ([.ref (G.2.2 72), .int (a), .int (b), .int (d), .ref (G.2.2 90)] : List Value) M (rI (nI 1) M) := by
  refine Cw.of (cc := cL_apart) (maxL := 6) (ret := (some .int)) (lv := [(0, .ref (G.2.2 72)), (1, .int (a)), (2, .int (b)), (3, .int (d)), (4, .ref (G.2.2 90))]) (by decide) rfl rfl (Nat.le_of_ble_eq_true rfl) ?_
  intro pg ev sg mm bl mt cd AZ C hXw htab hret
  refine j_aload C dL_apart_0 rfl ?_
  refine j_iconst C dL_apart_2 (v := nI 0) (by decide) ?_
  refine j_aload_n C dL_apart_3 rfl ?_
  refine j_iload_n C dL_apart_4 rfl ?_
  refine j_iload_n C dL_apart_5 rfl ?_
  refine j_iload_n C dL_apart_6 rfl ?_
  refine j_callCV C hXw [] ⟨0, 12, 15, 13⟩ [] (htab.trans rfl) (fun _ hz => absurd hz List.not_mem_nil) rfl (by decide) cl_L_apart_13 (by decide +kernel) h dL_apart_7 rfl (by decide) (T := TX5) rfl gL_apart_X5_apart rfl kd_X5_apart rfl rfl (Nat.le_of_ble_eq_true rfl) ⟨by show dd + 6 + 1 ≤ 18; omega, by show 8 + (4 + 11) + (48 * dd + 96) ≤ 672; omega⟩ ⟨Nat.le_refl _, Nat.le_refl _⟩ (fun q9 => ?_)
  show J G pg l ev (rmX 12) sg mm _ bl mt cd AZ _ _ 1 6 15 _ _ _
  refine j_astore C dL_apart_15 (by decide) ?_
  refine j_iconst C dL_apart_17 (v := nI 1) (by decide) ?_
  exact j_ireturn C hret dL_apart_18 ⟨rfl, rfl⟩

set_option maxHeartbeats 4000000 in
set_option maxRecDepth 100000 in
theorem wo_chartOf {l : Launch} {G : GG} {M : MM} {a b : Int32} {r : Int32} {P : MM → Prop} {dd : Nat} (hdd : dd ≤ 11) (h : Ct l G yX5_chartOf wsX5_chartOf dd ([.ref (G.2.2 72), .int a, .int b] : List Value) M (fun v9 M9 => v9 = some (.int r) ∧ P M9)) : Cw l G yL_chartOf wsL_chartOf 12 ([.ref (G.2.2 72), .int (a), .int (b), .ref (G.2.2 90)] : List Value) M (fun v9 M9 => v9 = some (.int (nI 0)) ∧ ∃ M1, P M1 ∧ M9 = setO M1 (vp_updL M1.2.2.2 0 (r).toInt64)) := by
  refine Cw.of (cc := cL_chartOf) (maxL := 5) (ret := (some .int)) (lv := [(0, .ref (G.2.2 72)), (1, .int (a)), (2, .int (b)), (3, .ref (G.2.2 90))]) (by decide) rfl rfl (Nat.le_of_ble_eq_true rfl) ?_
  intro pg ev sg mm bl mt cd AZ C hXw htab hret
  refine j_widen (k := 1) (n := 6) (Nat.zero_le _) (Nat.zero_le _) ?_
  refine j_aload_n C dL_chartOf_0 rfl ?_
  refine j_iconst C dL_chartOf_1 (v := nI 0) (by decide) ?_
  refine j_aload_n C dL_chartOf_2 rfl ?_
  refine j_iload_n C dL_chartOf_3 rfl ?_
  refine j_iload_n C dL_chartOf_4 rfl ?_
  refine j_callV C h dL_chartOf_5 rfl (by decide) (T := TX5) rfl gL_chartOf_X5_chartOf rfl kd_X5_chartOf rfl rfl (Nat.le_of_ble_eq_true rfl) ⟨by show dd + 1 ≤ 18; omega, by show 8 + (3 + 11) + 48 * dd ≤ 672; omega⟩ ⟨Nat.le_refl _, Nat.le_refl _⟩ (k_IQ fun M1 hq => ?_)
  refine j_i2l C dL_chartOf_8 ?_
  refine j_last90 C dL_chartOf_9 (by decide) ?_
  refine j_goto C dL_chartOf_10 (tgt := 21) (by decide) ?_
  refine j_iconst C dL_chartOf_21 (v := nI 0) (by decide) ?_
  exact j_ireturn C hret dL_chartOf_22 ⟨rfl, M1, hq, rfl⟩

set_option maxHeartbeats 4000000 in
set_option maxRecDepth 100000 in
theorem we_chartOf_1 {l : Launch} {G : GG} {M : MM} {a b : Int32} {dd : Nat} (hdd : dd ≤ 2) (h : Tt l G yX5_chartOf wsX5_chartOf dd ([.ref (G.2.2 72), .int a, .int b] : List Value) M "java/lang/IndexOutOfBoundsException") : Cw l G yL_chartOf wsL_chartOf 12 ([.ref (G.2.2 72), .int (a), .int (b), .ref (G.2.2 90)] : List Value) M (rI (nI 1) M) := by
  refine Cw.of (cc := cL_chartOf) (maxL := 5) (ret := (some .int)) (lv := [(0, .ref (G.2.2 72)), (1, .int (a)), (2, .int (b)), (3, .ref (G.2.2 90))]) (by decide) rfl rfl (Nat.le_of_ble_eq_true rfl) ?_
  intro pg ev sg mm bl mt cd AZ C hXw htab hret
  refine j_aload_n C dL_chartOf_0 rfl ?_
  refine j_iconst C dL_chartOf_1 (v := nI 0) (by decide) ?_
  refine j_aload_n C dL_chartOf_2 rfl ?_
  refine j_iload_n C dL_chartOf_3 rfl ?_
  refine j_iload_n C dL_chartOf_4 rfl ?_
  refine j_callCV C hXw [] ⟨0, 10, 13, 13⟩ [⟨0, 10, 17, 15⟩] (htab.trans rfl) (fun _ hz => absurd hz List.not_mem_nil) rfl (by decide) cl_L_chartOf_13 (by decide +kernel) h dL_chartOf_5 rfl (by decide) (T := TX5) rfl gL_chartOf_X5_chartOf rfl kd_X5_chartOf rfl rfl (Nat.le_of_ble_eq_true rfl) ⟨by show dd + 6 + 1 ≤ 18; omega, by show 8 + (3 + 11) + (48 * dd + 96) ≤ 672; omega⟩ ⟨Nat.le_refl _, Nat.le_refl _⟩ (fun q9 => ?_)
  show J G pg l ev (rmX 12) sg mm _ bl mt cd AZ _ _ 1 6 13 _ _ _
  refine j_astore C dL_chartOf_13 (by decide) ?_
  refine j_iconst C dL_chartOf_15 (v := nI 1) (by decide) ?_
  exact j_ireturn C hret dL_chartOf_16 ⟨rfl, rfl⟩

set_option maxHeartbeats 4000000 in
set_option maxRecDepth 100000 in
theorem we_chartOf_2 {l : Launch} {G : GG} {M : MM} {a b : Int32} {dd : Nat} (hdd : dd ≤ 2) (h : Tt l G yX5_chartOf wsX5_chartOf dd ([.ref (G.2.2 72), .int a, .int b] : List Value) M "java/lang/IllegalArgumentException") : Cw l G yL_chartOf wsL_chartOf 12 ([.ref (G.2.2 72), .int (a), .int (b), .ref (G.2.2 90)] : List Value) M (rI (nI 2) M) := by
  refine Cw.of (cc := cL_chartOf) (maxL := 5) (ret := (some .int)) (lv := [(0, .ref (G.2.2 72)), (1, .int (a)), (2, .int (b)), (3, .ref (G.2.2 90))]) (by decide) rfl rfl (Nat.le_of_ble_eq_true rfl) ?_
  intro pg ev sg mm bl mt cd AZ C hXw htab hret
  refine j_aload_n C dL_chartOf_0 rfl ?_
  refine j_iconst C dL_chartOf_1 (v := nI 0) (by decide) ?_
  refine j_aload_n C dL_chartOf_2 rfl ?_
  refine j_iload_n C dL_chartOf_3 rfl ?_
  refine j_iload_n C dL_chartOf_4 rfl ?_
  refine j_callCV C hXw [⟨0, 10, 13, 13⟩] ⟨0, 10, 17, 15⟩ [] (htab.trans rfl) (fun z hz => by have e := List.mem_singleton.mp hz; subst e; exact Or.inr ⟨by decide, _, cl_L_chartOf_13, by decide +kernel⟩) rfl (by decide) cl_L_chartOf_15 (by decide +kernel) h dL_chartOf_5 rfl (by decide) (T := TX5) rfl gL_chartOf_X5_chartOf rfl kd_X5_chartOf rfl rfl (Nat.le_of_ble_eq_true rfl) ⟨by show dd + 6 + 1 ≤ 18; omega, by show 8 + (3 + 11) + (48 * dd + 96) ≤ 672; omega⟩ ⟨Nat.le_refl _, Nat.le_refl _⟩ (fun q9 => ?_)
  show J G pg l ev (rmX 12) sg mm _ bl mt cd AZ _ _ 1 6 17 _ _ _
  refine j_astore C dL_chartOf_17 (by decide) ?_
  refine j_iconst C dL_chartOf_19 (v := nI 2) (by decide) ?_
  exact j_ireturn C hret dL_chartOf_20 ⟨rfl, rfl⟩

set_option maxHeartbeats 4000000 in
set_option maxRecDepth 100000 in
theorem wo_count {l : Launch} {G : GG} {M : MM} {a : Int32} {r : Int32} {P : MM → Prop} {dd : Nat} (hdd : dd ≤ 11) (h : Ct l G yX5_count wsX5_count dd ([.ref (G.2.2 72), .int a] : List Value) M (fun v9 M9 => v9 = some (.int r) ∧ P M9)) : Cw l G yL_count wsL_count 12 ([.ref (G.2.2 72), .int (a), .ref (G.2.2 90)] : List Value) M (fun v9 M9 => v9 = some (.int (nI 0)) ∧ ∃ M1, P M1 ∧ M9 = setO M1 (vp_updL M1.2.2.2 0 (r).toInt64)) := by
  refine Cw.of (cc := cL_count) (maxL := 4) (ret := (some .int)) (lv := [(0, .ref (G.2.2 72)), (1, .int (a)), (2, .ref (G.2.2 90))]) (by decide) rfl rfl (Nat.le_of_ble_eq_true rfl) ?_
  intro pg ev sg mm bl mt cd AZ C hXw htab hret
  refine j_widen (k := 1) (n := 6) (Nat.zero_le _) (Nat.zero_le _) ?_
  refine j_aload_n C dL_count_0 rfl ?_
  refine j_iconst C dL_count_1 (v := nI 0) (by decide) ?_
  refine j_aload_n C dL_count_2 rfl ?_
  refine j_iload_n C dL_count_3 rfl ?_
  refine j_callV C h dL_count_4 rfl (by decide) (T := TX5) rfl gL_count_X5_count rfl kd_X5_count rfl rfl (Nat.le_of_ble_eq_true rfl) ⟨by show dd + 1 ≤ 18; omega, by show 8 + (2 + 11) + 48 * dd ≤ 672; omega⟩ ⟨Nat.le_refl _, Nat.le_refl _⟩ (k_IQ fun M1 hq => ?_)
  refine j_i2l C dL_count_7 ?_
  refine j_last90 C dL_count_8 (by decide) ?_
  refine j_goto C dL_count_9 (tgt := 15) (by decide) ?_
  refine j_iconst C dL_count_15 (v := nI 0) (by decide) ?_
  exact j_ireturn C hret dL_count_16 ⟨rfl, M1, hq, rfl⟩

set_option maxHeartbeats 4000000 in
set_option maxRecDepth 100000 in
theorem we_count_1 {l : Launch} {G : GG} {M : MM} {a : Int32} {dd : Nat} (hdd : dd ≤ 2) (h : Tt l G yX5_count wsX5_count dd ([.ref (G.2.2 72), .int a] : List Value) M "java/lang/IllegalArgumentException") : Cw l G yL_count wsL_count 12 ([.ref (G.2.2 72), .int (a), .ref (G.2.2 90)] : List Value) M (rI (nI 1) M) := by
  refine Cw.of (cc := cL_count) (maxL := 4) (ret := (some .int)) (lv := [(0, .ref (G.2.2 72)), (1, .int (a)), (2, .ref (G.2.2 90))]) (by decide) rfl rfl (Nat.le_of_ble_eq_true rfl) ?_
  intro pg ev sg mm bl mt cd AZ C hXw htab hret
  refine j_aload_n C dL_count_0 rfl ?_
  refine j_iconst C dL_count_1 (v := nI 0) (by decide) ?_
  refine j_aload_n C dL_count_2 rfl ?_
  refine j_iload_n C dL_count_3 rfl ?_
  refine j_callCV C hXw [] ⟨0, 9, 12, 15⟩ [] (htab.trans rfl) (fun _ hz => absurd hz List.not_mem_nil) rfl (by decide) cl_L_count_15 (by decide +kernel) h dL_count_4 rfl (by decide) (T := TX5) rfl gL_count_X5_count rfl kd_X5_count rfl rfl (Nat.le_of_ble_eq_true rfl) ⟨by show dd + 6 + 1 ≤ 18; omega, by show 8 + (2 + 11) + (48 * dd + 96) ≤ 672; omega⟩ ⟨Nat.le_refl _, Nat.le_refl _⟩ (fun q9 => ?_)
  show J G pg l ev (rmX 12) sg mm _ bl mt cd AZ _ _ 1 6 12 _ _ _
  refine j_astore_n C dL_count_12 (by decide) ?_
  refine j_iconst C dL_count_13 (v := nI 1) (by decide) ?_
  exact j_ireturn C hret dL_count_14 ⟨rfl, rfl⟩

set_option maxHeartbeats 4000000 in
set_option maxRecDepth 100000 in
theorem wo_fewest {l : Launch} {G : GG} {M : MM} {a b : Int32} {r : Int32} {P : MM → Prop} {dd : Nat} (hdd : dd ≤ 11) (h : Ct l G yX5_fewest wsX5_fewest dd ([.ref (G.2.2 72), .int a, .int b] : List Value) M (fun v9 M9 => v9 = some (.int r) ∧ P M9)) : Cw l G yL_fewest wsL_fewest 12 ([.ref (G.2.2 72), .int (a), .int (b), .ref (G.2.2 90)] : List Value) M (fun v9 M9 => v9 = some (.int (nI 0)) ∧ ∃ M1, P M1 ∧ M9 = setO M1 (vp_updL M1.2.2.2 0 (r).toInt64)) := by
  refine Cw.of (cc := cL_fewest) (maxL := 5) (ret := (some .int)) (lv := [(0, .ref (G.2.2 72)), (1, .int (a)), (2, .int (b)), (3, .ref (G.2.2 90))]) (by decide) rfl rfl (Nat.le_of_ble_eq_true rfl) ?_
  intro pg ev sg mm bl mt cd AZ C hXw htab hret
  refine j_widen (k := 1) (n := 6) (Nat.zero_le _) (Nat.zero_le _) ?_
  refine j_aload_n C dL_fewest_0 rfl ?_
  refine j_iconst C dL_fewest_1 (v := nI 0) (by decide) ?_
  refine j_aload_n C dL_fewest_2 rfl ?_
  refine j_iload_n C dL_fewest_3 rfl ?_
  refine j_iload_n C dL_fewest_4 rfl ?_
  refine j_callV C h dL_fewest_5 rfl (by decide) (T := TX5) rfl gL_fewest_X5_fewest rfl kd_X5_fewest rfl rfl (Nat.le_of_ble_eq_true rfl) ⟨by show dd + 1 ≤ 18; omega, by show 8 + (3 + 11) + 48 * dd ≤ 672; omega⟩ ⟨Nat.le_refl _, Nat.le_refl _⟩ (k_IQ fun M1 hq => ?_)
  refine j_i2l C dL_fewest_8 ?_
  refine j_last90 C dL_fewest_9 (by decide) ?_
  refine j_goto C dL_fewest_10 (tgt := 21) (by decide) ?_
  refine j_iconst C dL_fewest_21 (v := nI 0) (by decide) ?_
  exact j_ireturn C hret dL_fewest_22 ⟨rfl, M1, hq, rfl⟩

set_option maxHeartbeats 4000000 in
set_option maxRecDepth 100000 in
theorem we_fewest_1 {l : Launch} {G : GG} {M : MM} {a b : Int32} {dd : Nat} (hdd : dd ≤ 2) (h : Tt l G yX5_fewest wsX5_fewest dd ([.ref (G.2.2 72), .int a, .int b] : List Value) M "java/lang/IndexOutOfBoundsException") : Cw l G yL_fewest wsL_fewest 12 ([.ref (G.2.2 72), .int (a), .int (b), .ref (G.2.2 90)] : List Value) M (rI (nI 1) M) := by
  refine Cw.of (cc := cL_fewest) (maxL := 5) (ret := (some .int)) (lv := [(0, .ref (G.2.2 72)), (1, .int (a)), (2, .int (b)), (3, .ref (G.2.2 90))]) (by decide) rfl rfl (Nat.le_of_ble_eq_true rfl) ?_
  intro pg ev sg mm bl mt cd AZ C hXw htab hret
  refine j_aload_n C dL_fewest_0 rfl ?_
  refine j_iconst C dL_fewest_1 (v := nI 0) (by decide) ?_
  refine j_aload_n C dL_fewest_2 rfl ?_
  refine j_iload_n C dL_fewest_3 rfl ?_
  refine j_iload_n C dL_fewest_4 rfl ?_
  refine j_callCV C hXw [] ⟨0, 10, 13, 13⟩ [⟨0, 10, 17, 15⟩] (htab.trans rfl) (fun _ hz => absurd hz List.not_mem_nil) rfl (by decide) cl_L_fewest_13 (by decide +kernel) h dL_fewest_5 rfl (by decide) (T := TX5) rfl gL_fewest_X5_fewest rfl kd_X5_fewest rfl rfl (Nat.le_of_ble_eq_true rfl) ⟨by show dd + 6 + 1 ≤ 18; omega, by show 8 + (3 + 11) + (48 * dd + 96) ≤ 672; omega⟩ ⟨Nat.le_refl _, Nat.le_refl _⟩ (fun q9 => ?_)
  show J G pg l ev (rmX 12) sg mm _ bl mt cd AZ _ _ 1 6 13 _ _ _
  refine j_astore C dL_fewest_13 (by decide) ?_
  refine j_iconst C dL_fewest_15 (v := nI 1) (by decide) ?_
  exact j_ireturn C hret dL_fewest_16 ⟨rfl, rfl⟩

set_option maxHeartbeats 4000000 in
set_option maxRecDepth 100000 in
theorem we_fewest_2 {l : Launch} {G : GG} {M : MM} {a b : Int32} {dd : Nat} (hdd : dd ≤ 2) (h : Tt l G yX5_fewest wsX5_fewest dd ([.ref (G.2.2 72), .int a, .int b] : List Value) M "java/lang/IllegalArgumentException") : Cw l G yL_fewest wsL_fewest 12 ([.ref (G.2.2 72), .int (a), .int (b), .ref (G.2.2 90)] : List Value) M (rI (nI 2) M) := by
  refine Cw.of (cc := cL_fewest) (maxL := 5) (ret := (some .int)) (lv := [(0, .ref (G.2.2 72)), (1, .int (a)), (2, .int (b)), (3, .ref (G.2.2 90))]) (by decide) rfl rfl (Nat.le_of_ble_eq_true rfl) ?_
  intro pg ev sg mm bl mt cd AZ C hXw htab hret
  refine j_aload_n C dL_fewest_0 rfl ?_
  refine j_iconst C dL_fewest_1 (v := nI 0) (by decide) ?_
  refine j_aload_n C dL_fewest_2 rfl ?_
  refine j_iload_n C dL_fewest_3 rfl ?_
  refine j_iload_n C dL_fewest_4 rfl ?_
  refine j_callCV C hXw [⟨0, 10, 13, 13⟩] ⟨0, 10, 17, 15⟩ [] (htab.trans rfl) (fun z hz => by have e := List.mem_singleton.mp hz; subst e; exact Or.inr ⟨by decide, _, cl_L_fewest_13, by decide +kernel⟩) rfl (by decide) cl_L_fewest_15 (by decide +kernel) h dL_fewest_5 rfl (by decide) (T := TX5) rfl gL_fewest_X5_fewest rfl kd_X5_fewest rfl rfl (Nat.le_of_ble_eq_true rfl) ⟨by show dd + 6 + 1 ≤ 18; omega, by show 8 + (3 + 11) + (48 * dd + 96) ≤ 672; omega⟩ ⟨Nat.le_refl _, Nat.le_refl _⟩ (fun q9 => ?_)
  show J G pg l ev (rmX 12) sg mm _ bl mt cd AZ _ _ 1 6 17 _ _ _
  refine j_astore C dL_fewest_17 (by decide) ?_
  refine j_iconst C dL_fewest_19 (v := nI 2) (by decide) ?_
  exact j_ireturn C hret dL_fewest_20 ⟨rfl, rfl⟩

set_option maxHeartbeats 4000000 in
set_option maxRecDepth 100000 in
theorem wo_ifBorrowed {l : Launch} {G : GG} {M : MM} {a b : Int32} {r : Int32} {P : MM → Prop} {dd : Nat} (hdd : dd ≤ 11) (h : Ct l G yX5_ifBorrowed wsX5_ifBorrowed dd ([.ref (G.2.2 72), .int a, .int b] : List Value) M (fun v9 M9 => v9 = some (.int r) ∧ P M9)) : Cw l G yL_ifBorrowed wsL_ifBorrowed 12 ([.ref (G.2.2 72), .int (a), .int (b), .ref (G.2.2 90)] : List Value) M (fun v9 M9 => v9 = some (.int (nI 0)) ∧ ∃ M1, P M1 ∧ M9 = setO M1 (vp_updL M1.2.2.2 0 (r).toInt64)) := by
  refine Cw.of (cc := cL_ifBorrowed) (maxL := 5) (ret := (some .int)) (lv := [(0, .ref (G.2.2 72)), (1, .int (a)), (2, .int (b)), (3, .ref (G.2.2 90))]) (by decide) rfl rfl (Nat.le_of_ble_eq_true rfl) ?_
  intro pg ev sg mm bl mt cd AZ C hXw htab hret
  refine j_widen (k := 1) (n := 6) (Nat.zero_le _) (Nat.zero_le _) ?_
  refine j_aload_n C dL_ifBorrowed_0 rfl ?_
  refine j_iconst C dL_ifBorrowed_1 (v := nI 0) (by decide) ?_
  refine j_aload_n C dL_ifBorrowed_2 rfl ?_
  refine j_iload_n C dL_ifBorrowed_3 rfl ?_
  refine j_iload_n C dL_ifBorrowed_4 rfl ?_
  refine j_callV C h dL_ifBorrowed_5 rfl (by decide) (T := TX5) rfl gL_ifBorrowed_X5_ifBorrowed rfl kd_X5_ifBorrowed rfl rfl (Nat.le_of_ble_eq_true rfl) ⟨by show dd + 1 ≤ 18; omega, by show 8 + (3 + 11) + 48 * dd ≤ 672; omega⟩ ⟨Nat.le_refl _, Nat.le_refl _⟩ (k_IQ fun M1 hq => ?_)
  refine j_i2l C dL_ifBorrowed_8 ?_
  refine j_last90 C dL_ifBorrowed_9 (by decide) ?_
  refine j_goto C dL_ifBorrowed_10 (tgt := 17) (by decide) ?_
  refine j_iconst C dL_ifBorrowed_17 (v := nI 0) (by decide) ?_
  exact j_ireturn C hret dL_ifBorrowed_18 ⟨rfl, M1, hq, rfl⟩

set_option maxHeartbeats 4000000 in
set_option maxRecDepth 100000 in
theorem we_ifBorrowed_1 {l : Launch} {G : GG} {M : MM} {a b : Int32} {dd : Nat} (hdd : dd ≤ 2) (h : Tt l G yX5_ifBorrowed wsX5_ifBorrowed dd ([.ref (G.2.2 72), .int a, .int b] : List Value) M "java/lang/IndexOutOfBoundsException") : Cw l G yL_ifBorrowed wsL_ifBorrowed 12 ([.ref (G.2.2 72), .int (a), .int (b), .ref (G.2.2 90)] : List Value) M (rI (nI 1) M) := by
  refine Cw.of (cc := cL_ifBorrowed) (maxL := 5) (ret := (some .int)) (lv := [(0, .ref (G.2.2 72)), (1, .int (a)), (2, .int (b)), (3, .ref (G.2.2 90))]) (by decide) rfl rfl (Nat.le_of_ble_eq_true rfl) ?_
  intro pg ev sg mm bl mt cd AZ C hXw htab hret
  refine j_aload_n C dL_ifBorrowed_0 rfl ?_
  refine j_iconst C dL_ifBorrowed_1 (v := nI 0) (by decide) ?_
  refine j_aload_n C dL_ifBorrowed_2 rfl ?_
  refine j_iload_n C dL_ifBorrowed_3 rfl ?_
  refine j_iload_n C dL_ifBorrowed_4 rfl ?_
  refine j_callCV C hXw [] ⟨0, 10, 13, 13⟩ [] (htab.trans rfl) (fun _ hz => absurd hz List.not_mem_nil) rfl (by decide) cl_L_ifBorrowed_13 (by decide +kernel) h dL_ifBorrowed_5 rfl (by decide) (T := TX5) rfl gL_ifBorrowed_X5_ifBorrowed rfl kd_X5_ifBorrowed rfl rfl (Nat.le_of_ble_eq_true rfl) ⟨by show dd + 6 + 1 ≤ 18; omega, by show 8 + (3 + 11) + (48 * dd + 96) ≤ 672; omega⟩ ⟨Nat.le_refl _, Nat.le_refl _⟩ (fun q9 => ?_)
  show J G pg l ev (rmX 12) sg mm _ bl mt cd AZ _ _ 1 6 13 _ _ _
  refine j_astore C dL_ifBorrowed_13 (by decide) ?_
  refine j_iconst C dL_ifBorrowed_15 (v := nI 1) (by decide) ?_
  exact j_ireturn C hret dL_ifBorrowed_16 ⟨rfl, rfl⟩

set_option maxHeartbeats 4000000 in
set_option maxRecDepth 100000 in
theorem wo_leastChange {l : Launch} {G : GG} {M : MM} {a b d : Int32} {r : Int32} {P : MM → Prop} {dd : Nat} (hdd : dd ≤ 11) (h : Ct l G yX5_leastChange wsX5_leastChange dd ([.ref (G.2.2 72), .int a, .int b, .int d] : List Value) M (fun v9 M9 => v9 = some (.int r) ∧ P M9)) : Cw l G yL_leastChange wsL_leastChange 12 ([.ref (G.2.2 72), .int (a), .int (b), .int (d), .ref (G.2.2 90)] : List Value) M (fun v9 M9 => v9 = some (.int (nI 0)) ∧ ∃ M1, P M1 ∧ M9 = setO M1 (vp_updL M1.2.2.2 0 (r).toInt64)) := by
  refine Cw.of (cc := cL_leastChange) (maxL := 6) (ret := (some .int)) (lv := [(0, .ref (G.2.2 72)), (1, .int (a)), (2, .int (b)), (3, .int (d)), (4, .ref (G.2.2 90))]) (by decide) rfl rfl (Nat.le_of_ble_eq_true rfl) ?_
  intro pg ev sg mm bl mt cd AZ C hXw htab hret
  refine j_widen (k := 1) (n := 6) (Nat.zero_le _) (Nat.zero_le _) ?_
  refine j_aload C dL_leastChange_0 rfl ?_
  refine j_iconst C dL_leastChange_2 (v := nI 0) (by decide) ?_
  refine j_aload_n C dL_leastChange_3 rfl ?_
  refine j_iload_n C dL_leastChange_4 rfl ?_
  refine j_iload_n C dL_leastChange_5 rfl ?_
  refine j_iload_n C dL_leastChange_6 rfl ?_
  refine j_callV C h dL_leastChange_7 rfl (by decide) (T := TX5) rfl gL_leastChange_X5_leastChange rfl kd_X5_leastChange rfl rfl (Nat.le_of_ble_eq_true rfl) ⟨by show dd + 1 ≤ 18; omega, by show 8 + (5 + 11) + 48 * dd ≤ 672; omega⟩ ⟨Nat.le_refl _, Nat.le_refl _⟩ (k_IQ fun M1 hq => ?_)
  refine j_i2l C dL_leastChange_10 ?_
  refine j_last90 C dL_leastChange_11 (by decide) ?_
  refine j_goto C dL_leastChange_12 (tgt := 23) (by decide) ?_
  refine j_iconst C dL_leastChange_23 (v := nI 0) (by decide) ?_
  exact j_ireturn C hret dL_leastChange_24 ⟨rfl, M1, hq, rfl⟩

set_option maxHeartbeats 4000000 in
set_option maxRecDepth 100000 in
theorem we_leastChange_1 {l : Launch} {G : GG} {M : MM} {a b d : Int32} {dd : Nat} (hdd : dd ≤ 2) (h : Tt l G yX5_leastChange wsX5_leastChange dd ([.ref (G.2.2 72), .int a, .int b, .int d] : List Value) M "java/lang/IndexOutOfBoundsException") : Cw l G yL_leastChange wsL_leastChange 12 ([.ref (G.2.2 72), .int (a), .int (b), .int (d), .ref (G.2.2 90)] : List Value) M (rI (nI 1) M) := by
  refine Cw.of (cc := cL_leastChange) (maxL := 6) (ret := (some .int)) (lv := [(0, .ref (G.2.2 72)), (1, .int (a)), (2, .int (b)), (3, .int (d)), (4, .ref (G.2.2 90))]) (by decide) rfl rfl (Nat.le_of_ble_eq_true rfl) ?_
  intro pg ev sg mm bl mt cd AZ C hXw htab hret
  refine j_aload C dL_leastChange_0 rfl ?_
  refine j_iconst C dL_leastChange_2 (v := nI 0) (by decide) ?_
  refine j_aload_n C dL_leastChange_3 rfl ?_
  refine j_iload_n C dL_leastChange_4 rfl ?_
  refine j_iload_n C dL_leastChange_5 rfl ?_
  refine j_iload_n C dL_leastChange_6 rfl ?_
  refine j_callCV C hXw [] ⟨0, 12, 15, 13⟩ [⟨0, 12, 19, 15⟩] (htab.trans rfl) (fun _ hz => absurd hz List.not_mem_nil) rfl (by decide) cl_L_leastChange_13 (by decide +kernel) h dL_leastChange_7 rfl (by decide) (T := TX5) rfl gL_leastChange_X5_leastChange rfl kd_X5_leastChange rfl rfl (Nat.le_of_ble_eq_true rfl) ⟨by show dd + 6 + 1 ≤ 18; omega, by show 8 + (5 + 11) + (48 * dd + 96) ≤ 672; omega⟩ ⟨Nat.le_refl _, Nat.le_refl _⟩ (fun q9 => ?_)
  show J G pg l ev (rmX 12) sg mm _ bl mt cd AZ _ _ 1 6 15 _ _ _
  refine j_astore C dL_leastChange_15 (by decide) ?_
  refine j_iconst C dL_leastChange_17 (v := nI 1) (by decide) ?_
  exact j_ireturn C hret dL_leastChange_18 ⟨rfl, rfl⟩

set_option maxHeartbeats 4000000 in
set_option maxRecDepth 100000 in
theorem we_leastChange_2 {l : Launch} {G : GG} {M : MM} {a b d : Int32} {dd : Nat} (hdd : dd ≤ 2) (h : Tt l G yX5_leastChange wsX5_leastChange dd ([.ref (G.2.2 72), .int a, .int b, .int d] : List Value) M "java/lang/IllegalArgumentException") : Cw l G yL_leastChange wsL_leastChange 12 ([.ref (G.2.2 72), .int (a), .int (b), .int (d), .ref (G.2.2 90)] : List Value) M (rI (nI 2) M) := by
  refine Cw.of (cc := cL_leastChange) (maxL := 6) (ret := (some .int)) (lv := [(0, .ref (G.2.2 72)), (1, .int (a)), (2, .int (b)), (3, .int (d)), (4, .ref (G.2.2 90))]) (by decide) rfl rfl (Nat.le_of_ble_eq_true rfl) ?_
  intro pg ev sg mm bl mt cd AZ C hXw htab hret
  refine j_aload C dL_leastChange_0 rfl ?_
  refine j_iconst C dL_leastChange_2 (v := nI 0) (by decide) ?_
  refine j_aload_n C dL_leastChange_3 rfl ?_
  refine j_iload_n C dL_leastChange_4 rfl ?_
  refine j_iload_n C dL_leastChange_5 rfl ?_
  refine j_iload_n C dL_leastChange_6 rfl ?_
  refine j_callCV C hXw [⟨0, 12, 15, 13⟩] ⟨0, 12, 19, 15⟩ [] (htab.trans rfl) (fun z hz => by have e := List.mem_singleton.mp hz; subst e; exact Or.inr ⟨by decide, _, cl_L_leastChange_13, by decide +kernel⟩) rfl (by decide) cl_L_leastChange_15 (by decide +kernel) h dL_leastChange_7 rfl (by decide) (T := TX5) rfl gL_leastChange_X5_leastChange rfl kd_X5_leastChange rfl rfl (Nat.le_of_ble_eq_true rfl) ⟨by show dd + 6 + 1 ≤ 18; omega, by show 8 + (5 + 11) + (48 * dd + 96) ≤ 672; omega⟩ ⟨Nat.le_refl _, Nat.le_refl _⟩ (fun q9 => ?_)
  show J G pg l ev (rmX 12) sg mm _ bl mt cd AZ _ _ 1 6 19 _ _ _
  refine j_astore C dL_leastChange_19 (by decide) ?_
  refine j_iconst C dL_leastChange_21 (v := nI 2) (by decide) ?_
  exact j_ireturn C hret dL_leastChange_22 ⟨rfl, rfl⟩
