set_option maxRecDepth 20000 in
theorem kd_X5_mix : yX5_mix.cls = RX5 ∧ yX5_mix.cls ≠ "java/lang/invoke/MethodHandle" ∧ yX5_mix.cls ≠ "java/lang/invoke/VarHandle" ∧ (parseMethodDescriptor yX5_mix.desc).map (fun d => d.parameters.length) = some 3 := by decide +kernel
set_option maxRecDepth 20000 in
theorem kd_X5_painter : yX5_painter.cls = RX5 ∧ yX5_painter.cls ≠ "java/lang/invoke/MethodHandle" ∧ yX5_painter.cls ≠ "java/lang/invoke/VarHandle" ∧ (parseMethodDescriptor yX5_painter.desc).map (fun d => d.parameters.length) = some 3 := by decide +kernel
set_option maxRecDepth 20000 in
theorem kd_X5_borrow : yX5_borrow.cls = RX5 ∧ yX5_borrow.cls ≠ "java/lang/invoke/MethodHandle" ∧ yX5_borrow.cls ≠ "java/lang/invoke/VarHandle" ∧ (parseMethodDescriptor yX5_borrow.desc).map (fun d => d.parameters.length) = some 2 := by decide +kernel
set_option maxRecDepth 20000 in
theorem kd_X5_label : yX5_label.cls = RX5 ∧ yX5_label.cls ≠ "java/lang/invoke/MethodHandle" ∧ yX5_label.cls ≠ "java/lang/invoke/VarHandle" ∧ (parseMethodDescriptor yX5_label.desc).map (fun d => d.parameters.length) = some 2 := by decide +kernel
set_option maxRecDepth 20000 in
theorem kd_X5_labelAll : yX5_labelAll.cls = RX5 ∧ yX5_labelAll.cls ≠ "java/lang/invoke/MethodHandle" ∧ yX5_labelAll.cls ≠ "java/lang/invoke/VarHandle" ∧ (parseMethodDescriptor yX5_labelAll.desc).map (fun d => d.parameters.length) = some 1 := by decide +kernel
set_option maxRecDepth 20000 in
theorem kd_X5_hang : yX5_hang.cls = RX5 ∧ yX5_hang.cls ≠ "java/lang/invoke/MethodHandle" ∧ yX5_hang.cls ≠ "java/lang/invoke/VarHandle" ∧ (parseMethodDescriptor yX5_hang.desc).map (fun d => d.parameters.length) = some 2 := by decide +kernel
set_option maxRecDepth 20000 in
theorem kd_X5_takeDown : yX5_takeDown.cls = RX5 ∧ yX5_takeDown.cls ≠ "java/lang/invoke/MethodHandle" ∧ yX5_takeDown.cls ≠ "java/lang/invoke/VarHandle" ∧ (parseMethodDescriptor yX5_takeDown.desc).map (fun d => d.parameters.length) = some 1 := by decide +kernel
set_option maxRecDepth 20000 in
theorem kd_X5_correct : yX5_correct.cls = RX5 ∧ yX5_correct.cls ≠ "java/lang/invoke/MethodHandle" ∧ yX5_correct.cls ≠ "java/lang/invoke/VarHandle" ∧ (parseMethodDescriptor yX5_correct.desc).map (fun d => d.parameters.length) = some 2 := by decide +kernel
set_option maxRecDepth 20000 in
theorem kd_X5_append : yX5_append.cls = RX5 ∧ yX5_append.cls ≠ "java/lang/invoke/MethodHandle" ∧ yX5_append.cls ≠ "java/lang/invoke/VarHandle" ∧ (parseMethodDescriptor yX5_append.desc).map (fun d => d.parameters.length) = some 1 := by decide +kernel
set_option maxRecDepth 20000 in
theorem kd_X5_load : yX5_load.cls = RX5 ∧ yX5_load.cls ≠ "java/lang/invoke/MethodHandle" ∧ yX5_load.cls ≠ "java/lang/invoke/VarHandle" ∧ (parseMethodDescriptor yX5_load.desc).map (fun d => d.parameters.length) = some 0 := by decide +kernel
set_option maxRecDepth 20000 in
theorem kd_X5_undo : yX5_undo.cls = RX5 ∧ yX5_undo.cls ≠ "java/lang/invoke/MethodHandle" ∧ yX5_undo.cls ≠ "java/lang/invoke/VarHandle" ∧ (parseMethodDescriptor yX5_undo.desc).map (fun d => d.parameters.length) = some 0 := by decide +kernel
set_option maxRecDepth 20000 in
theorem kd_X5_potOf : yX5_potOf.cls = RX5 ∧ yX5_potOf.cls ≠ "java/lang/invoke/MethodHandle" ∧ yX5_potOf.cls ≠ "java/lang/invoke/VarHandle" ∧ (parseMethodDescriptor yX5_potOf.desc).map (fun d => d.parameters.length) = some 2 := by decide +kernel
set_option maxRecDepth 20000 in
theorem kd_X5_seen : yX5_seen.cls = RX5 ∧ yX5_seen.cls ≠ "java/lang/invoke/MethodHandle" ∧ yX5_seen.cls ≠ "java/lang/invoke/VarHandle" ∧ (parseMethodDescriptor yX5_seen.desc).map (fun d => d.parameters.length) = some 2 := by decide +kernel
set_option maxRecDepth 20000 in
theorem kd_X5_painterOf : yX5_painterOf.cls = RX5 ∧ yX5_painterOf.cls ≠ "java/lang/invoke/MethodHandle" ∧ yX5_painterOf.cls ≠ "java/lang/invoke/VarHandle" ∧ (parseMethodDescriptor yX5_painterOf.desc).map (fun d => d.parameters.length) = some 2 := by decide +kernel
set_option maxRecDepth 20000 in
theorem kd_X5_apart : yX5_apart.cls = RX5 ∧ yX5_apart.cls ≠ "java/lang/invoke/MethodHandle" ∧ yX5_apart.cls ≠ "java/lang/invoke/VarHandle" ∧ (parseMethodDescriptor yX5_apart.desc).map (fun d => d.parameters.length) = some 3 := by decide +kernel
set_option maxRecDepth 20000 in
theorem kd_X5_chartOf : yX5_chartOf.cls = RX5 ∧ yX5_chartOf.cls ≠ "java/lang/invoke/MethodHandle" ∧ yX5_chartOf.cls ≠ "java/lang/invoke/VarHandle" ∧ (parseMethodDescriptor yX5_chartOf.desc).map (fun d => d.parameters.length) = some 2 := by decide +kernel
set_option maxRecDepth 20000 in
theorem kd_X5_count : yX5_count.cls = RX5 ∧ yX5_count.cls ≠ "java/lang/invoke/MethodHandle" ∧ yX5_count.cls ≠ "java/lang/invoke/VarHandle" ∧ (parseMethodDescriptor yX5_count.desc).map (fun d => d.parameters.length) = some 1 := by decide +kernel
set_option maxRecDepth 20000 in
theorem kd_X5_fewest : yX5_fewest.cls = RX5 ∧ yX5_fewest.cls ≠ "java/lang/invoke/MethodHandle" ∧ yX5_fewest.cls ≠ "java/lang/invoke/VarHandle" ∧ (parseMethodDescriptor yX5_fewest.desc).map (fun d => d.parameters.length) = some 2 := by decide +kernel
set_option maxRecDepth 20000 in
theorem kd_X5_ifBorrowed : yX5_ifBorrowed.cls = RX5 ∧ yX5_ifBorrowed.cls ≠ "java/lang/invoke/MethodHandle" ∧ yX5_ifBorrowed.cls ≠ "java/lang/invoke/VarHandle" ∧ (parseMethodDescriptor yX5_ifBorrowed.desc).map (fun d => d.parameters.length) = some 2 := by decide +kernel
set_option maxRecDepth 20000 in
theorem kd_X5_leastChange : yX5_leastChange.cls = RX5 ∧ yX5_leastChange.cls ≠ "java/lang/invoke/MethodHandle" ∧ yX5_leastChange.cls ≠ "java/lang/invoke/VarHandle" ∧ (parseMethodDescriptor yX5_leastChange.desc).map (fun d => d.parameters.length) = some 3 := by decide +kernel
set_option maxRecDepth 20000 in
theorem cl_L_takeDown_16 : Cond.classLink RL 16 "java/lang/IndexOutOfBoundsException" ∈ wsL_takeDown := by decide +kernel
set_option maxRecDepth 20000 in
theorem cst_L_takeDown_18 : Cond.constant RL 18 (-1000001) ∈ wsL_takeDown := by decide +kernel
set_option maxRecDepth 20000 in
theorem cl_L_correct_16 : Cond.classLink RL 16 "java/lang/IndexOutOfBoundsException" ∈ wsL_correct := by decide +kernel
set_option maxRecDepth 20000 in
theorem cst_L_correct_18 : Cond.constant RL 18 (-1000001) ∈ wsL_correct := by decide +kernel
set_option maxHeartbeats 4000000 in
set_option maxRecDepth 100000 in
theorem wt_mix {l : Launch} {G : GG} {M : MM} {a b d : Int32} {r : Int32} {P : MM → Prop} {dd : Nat} (hdd : dd ≤ 11) (h : Ct l G yX5_mix wsX5_mix dd ([.ref (G.2.2 72), .int a, .int b, .int d] : List Value) M (fun v9 M9 => v9 = some (.int r) ∧ P M9)) : Ct l G yL_mix wsL_mix 12 ([.ref (G.2.2 72), .int (a), .int (b), .int (d)] : List Value) M (fun v9 M9 => v9 = some (.int r) ∧ P M9) := by
  refine Ct.ofH (cc := cL_mix) (maxL := 5) (ret := (some .int)) (lv := [(0, .ref (G.2.2 72)), (1, .int (a)), (2, .int (b)), (3, .int (d))]) (by decide) rfl rfl (Nat.le_of_ble_eq_true rfl) ?_
  intro pg ev sg mm bl mt cd AZ C hret
  refine j_aload_n C dL_mix_0 rfl ?_
  refine j_iload_n C dL_mix_1 rfl ?_
  refine j_iload_n C dL_mix_2 rfl ?_
  refine j_iload_n C dL_mix_3 rfl ?_
  refine j_callV C h dL_mix_4 rfl (by decide) (T := TX5) rfl gL_mix_X5_mix rfl kd_X5_mix rfl rfl (Nat.le_of_ble_eq_true rfl) ⟨by show dd + 1 ≤ 12; omega, by show 8 + (5 + 11) + 48 * dd ≤ 576; omega⟩ ⟨Nat.zero_le _, Nat.zero_le _⟩ (k_IQ fun M1 hq => ?_)
  exact j_ireturn C hret dL_mix_7 ⟨rfl, hq⟩

set_option maxHeartbeats 4000000 in
set_option maxRecDepth 100000 in
theorem wt_painter {l : Launch} {G : GG} {M : MM} {a b d : Int32} {r : Int32} {P : MM → Prop} {dd : Nat} (hdd : dd ≤ 11) (h : Ct l G yX5_painter wsX5_painter dd ([.ref (G.2.2 72), .int a, .int b, .int d] : List Value) M (fun v9 M9 => v9 = some (.int r) ∧ P M9)) : Ct l G yL_painter wsL_painter 12 ([.ref (G.2.2 72), .int (a), .int (b), .int (d)] : List Value) M (fun v9 M9 => v9 = some (.int r) ∧ P M9) := by
  refine Ct.ofH (cc := cL_painter) (maxL := 5) (ret := (some .int)) (lv := [(0, .ref (G.2.2 72)), (1, .int (a)), (2, .int (b)), (3, .int (d))]) (by decide) rfl rfl (Nat.le_of_ble_eq_true rfl) ?_
  intro pg ev sg mm bl mt cd AZ C hret
  refine j_aload_n C dL_painter_0 rfl ?_
  refine j_iload_n C dL_painter_1 rfl ?_
  refine j_iload_n C dL_painter_2 rfl ?_
  refine j_iload_n C dL_painter_3 rfl ?_
  refine j_callV C h dL_painter_4 rfl (by decide) (T := TX5) rfl gL_painter_X5_painter rfl kd_X5_painter rfl rfl (Nat.le_of_ble_eq_true rfl) ⟨by show dd + 1 ≤ 12; omega, by show 8 + (6 + 11) + 48 * dd ≤ 576; omega⟩ ⟨Nat.zero_le _, Nat.zero_le _⟩ (k_IQ fun M1 hq => ?_)
  exact j_ireturn C hret dL_painter_7 ⟨rfl, hq⟩

set_option maxHeartbeats 4000000 in
set_option maxRecDepth 100000 in
theorem wt_borrow {l : Launch} {G : GG} {M : MM} {a b : Int32} {r : Int32} {P : MM → Prop} {dd : Nat} (hdd : dd ≤ 11) (h : Ct l G yX5_borrow wsX5_borrow dd ([.ref (G.2.2 72), .int a, .int b] : List Value) M (fun v9 M9 => v9 = some (.int r) ∧ P M9)) : Ct l G yL_borrow wsL_borrow 12 ([.ref (G.2.2 72), .int (a), .int (b)] : List Value) M (fun v9 M9 => v9 = some (.int r) ∧ P M9) := by
  refine Ct.ofH (cc := cL_borrow) (maxL := 4) (ret := (some .int)) (lv := [(0, .ref (G.2.2 72)), (1, .int (a)), (2, .int (b))]) (by decide) rfl rfl (Nat.le_of_ble_eq_true rfl) ?_
  intro pg ev sg mm bl mt cd AZ C hret
  refine j_aload_n C dL_borrow_0 rfl ?_
  refine j_iload_n C dL_borrow_1 rfl ?_
  refine j_iload_n C dL_borrow_2 rfl ?_
  refine j_callV C h dL_borrow_3 rfl (by decide) (T := TX5) rfl gL_borrow_X5_borrow rfl kd_X5_borrow rfl rfl (Nat.le_of_ble_eq_true rfl) ⟨by show dd + 1 ≤ 12; omega, by show 8 + (4 + 11) + 48 * dd ≤ 576; omega⟩ ⟨Nat.zero_le _, Nat.zero_le _⟩ (k_IQ fun M1 hq => ?_)
  exact j_ireturn C hret dL_borrow_6 ⟨rfl, hq⟩

set_option maxHeartbeats 4000000 in
set_option maxRecDepth 100000 in
theorem wt_label {l : Launch} {G : GG} {M : MM} {a b : Int32} {r : Int32} {P : MM → Prop} {dd : Nat} (hdd : dd ≤ 11) (h : Ct l G yX5_label wsX5_label dd ([.ref (G.2.2 72), .int a, .int b] : List Value) M (fun v9 M9 => v9 = some (.int r) ∧ P M9)) : Ct l G yL_label wsL_label 12 ([.ref (G.2.2 72), .int (a), .int (b)] : List Value) M (fun v9 M9 => v9 = some (.int r) ∧ P M9) := by
  refine Ct.ofH (cc := cL_label) (maxL := 4) (ret := (some .int)) (lv := [(0, .ref (G.2.2 72)), (1, .int (a)), (2, .int (b))]) (by decide) rfl rfl (Nat.le_of_ble_eq_true rfl) ?_
  intro pg ev sg mm bl mt cd AZ C hret
  refine j_aload_n C dL_label_0 rfl ?_
  refine j_iload_n C dL_label_1 rfl ?_
  refine j_iload_n C dL_label_2 rfl ?_
  refine j_callV C h dL_label_3 rfl (by decide) (T := TX5) rfl gL_label_X5_label rfl kd_X5_label rfl rfl (Nat.le_of_ble_eq_true rfl) ⟨by show dd + 1 ≤ 12; omega, by show 8 + (4 + 11) + 48 * dd ≤ 576; omega⟩ ⟨Nat.zero_le _, Nat.zero_le _⟩ (k_IQ fun M1 hq => ?_)
  exact j_ireturn C hret dL_label_6 ⟨rfl, hq⟩

set_option maxHeartbeats 4000000 in
set_option maxRecDepth 100000 in
theorem wt_labelAll {l : Launch} {G : GG} {M : MM} {a : Int32} {r : Int32} {P : MM → Prop} {dd : Nat} (hdd : dd ≤ 11) (h : Ct l G yX5_labelAll wsX5_labelAll dd ([.ref (G.2.2 72), .int a] : List Value) M (fun v9 M9 => v9 = some (.int r) ∧ P M9)) : Ct l G yL_labelAll wsL_labelAll 12 ([.ref (G.2.2 72), .int (a)] : List Value) M (fun v9 M9 => v9 = some (.int r) ∧ P M9) := by
  refine Ct.ofH (cc := cL_labelAll) (maxL := 3) (ret := (some .int)) (lv := [(0, .ref (G.2.2 72)), (1, .int (a))]) (by decide) rfl rfl (Nat.le_of_ble_eq_true rfl) ?_
  intro pg ev sg mm bl mt cd AZ C hret
  refine j_aload_n C dL_labelAll_0 rfl ?_
  refine j_iload_n C dL_labelAll_1 rfl ?_
  refine j_callV C h dL_labelAll_2 rfl (by decide) (T := TX5) rfl gL_labelAll_X5_labelAll rfl kd_X5_labelAll rfl rfl (Nat.le_of_ble_eq_true rfl) ⟨by show dd + 1 ≤ 12; omega, by show 8 + (2 + 11) + 48 * dd ≤ 576; omega⟩ ⟨Nat.zero_le _, Nat.zero_le _⟩ (k_IQ fun M1 hq => ?_)
  exact j_ireturn C hret dL_labelAll_5 ⟨rfl, hq⟩

set_option maxHeartbeats 4000000 in
set_option maxRecDepth 100000 in
theorem wt_hang {l : Launch} {G : GG} {M : MM} {a b : Int32} {r : Int32} {P : MM → Prop} {dd : Nat} (hdd : dd ≤ 11) (h : Ct l G yX5_hang wsX5_hang dd ([.ref (G.2.2 72), .int a, .int b] : List Value) M (fun v9 M9 => v9 = some (.int r) ∧ P M9)) : Ct l G yL_hang wsL_hang 12 ([.ref (G.2.2 72), .int (a), .int (b)] : List Value) M (fun v9 M9 => v9 = some (.int r) ∧ P M9) := by
  refine Ct.ofH (cc := cL_hang) (maxL := 4) (ret := (some .int)) (lv := [(0, .ref (G.2.2 72)), (1, .int (a)), (2, .int (b))]) (by decide) rfl rfl (Nat.le_of_ble_eq_true rfl) ?_
  intro pg ev sg mm bl mt cd AZ C hret
  refine j_aload_n C dL_hang_0 rfl ?_
  refine j_iload_n C dL_hang_1 rfl ?_
  refine j_iload_n C dL_hang_2 rfl ?_
  refine j_callV C h dL_hang_3 rfl (by decide) (T := TX5) rfl gL_hang_X5_hang rfl kd_X5_hang rfl rfl (Nat.le_of_ble_eq_true rfl) ⟨by show dd + 1 ≤ 12; omega, by show 8 + (3 + 11) + 48 * dd ≤ 576; omega⟩ ⟨Nat.zero_le _, Nat.zero_le _⟩ (k_IQ fun M1 hq => ?_)
  exact j_ireturn C hret dL_hang_6 ⟨rfl, hq⟩

set_option maxHeartbeats 4000000 in
set_option maxRecDepth 100000 in
theorem wt_takeDown {l : Launch} {G : GG} {M : MM} {a : Int32} {r : Int32} {P : MM → Prop} {dd : Nat} (hdd : dd ≤ 11) (h : Ct l G yX5_takeDown wsX5_takeDown dd ([.ref (G.2.2 72), .int a] : List Value) M (fun v9 M9 => v9 = some (.int r) ∧ P M9)) : Ct l G yL_takeDown wsL_takeDown 12 ([.ref (G.2.2 72), .int (a)] : List Value) M (fun v9 M9 => v9 = some (.int r) ∧ P M9) := by
  refine Ct.ofH (cc := cL_takeDown) (maxL := 3) (ret := (some .int)) (lv := [(0, .ref (G.2.2 72)), (1, .int (a))]) (by decide) rfl rfl (Nat.le_of_ble_eq_true rfl) ?_
  intro pg ev sg mm bl mt cd AZ C hret
  refine j_aload_n C dL_takeDown_0 rfl ?_
  refine j_iload_n C dL_takeDown_1 rfl ?_
  refine j_callV C h dL_takeDown_2 rfl (by decide) (T := TX5) rfl gL_takeDown_X5_takeDown rfl kd_X5_takeDown rfl rfl (Nat.le_of_ble_eq_true rfl) ⟨by show dd + 1 ≤ 12; omega, by show 8 + (3 + 11) + 48 * dd ≤ 576; omega⟩ ⟨Nat.zero_le _, Nat.zero_le _⟩ (k_IQ fun M1 hq => ?_)
  exact j_ireturn C hret dL_takeDown_5 ⟨rfl, hq⟩

set_option maxHeartbeats 4000000 in
set_option maxRecDepth 100000 in
theorem wt_correct {l : Launch} {G : GG} {M : MM} {a b : Int32} {r : Int32} {P : MM → Prop} {dd : Nat} (hdd : dd ≤ 11) (h : Ct l G yX5_correct wsX5_correct dd ([.ref (G.2.2 72), .int a, .int b] : List Value) M (fun v9 M9 => v9 = some (.int r) ∧ P M9)) : Ct l G yL_correct wsL_correct 12 ([.ref (G.2.2 72), .int (a), .int (b)] : List Value) M (fun v9 M9 => v9 = some (.int r) ∧ P M9) := by
  refine Ct.ofH (cc := cL_correct) (maxL := 4) (ret := (some .int)) (lv := [(0, .ref (G.2.2 72)), (1, .int (a)), (2, .int (b))]) (by decide) rfl rfl (Nat.le_of_ble_eq_true rfl) ?_
  intro pg ev sg mm bl mt cd AZ C hret
  refine j_aload_n C dL_correct_0 rfl ?_
  refine j_iload_n C dL_correct_1 rfl ?_
  refine j_iload_n C dL_correct_2 rfl ?_
  refine j_callV C h dL_correct_3 rfl (by decide) (T := TX5) rfl gL_correct_X5_correct rfl kd_X5_correct rfl rfl (Nat.le_of_ble_eq_true rfl) ⟨by show dd + 1 ≤ 12; omega, by show 8 + (3 + 11) + 48 * dd ≤ 576; omega⟩ ⟨Nat.zero_le _, Nat.zero_le _⟩ (k_IQ fun M1 hq => ?_)
  exact j_ireturn C hret dL_correct_6 ⟨rfl, hq⟩

set_option maxHeartbeats 4000000 in
set_option maxRecDepth 100000 in
theorem wt_append {l : Launch} {G : GG} {M : MM} {a : Int32} {r : Int32} {P : MM → Prop} {dd : Nat} (hdd : dd ≤ 11) (h : Ct l G yX5_append wsX5_append dd ([.ref (G.2.2 72), .int a] : List Value) M (fun v9 M9 => v9 = some (.int r) ∧ P M9)) : Ct l G yL_append wsL_append 12 ([.ref (G.2.2 72), .int (a)] : List Value) M (fun v9 M9 => v9 = some (.int r) ∧ P M9) := by
  refine Ct.ofH (cc := cL_append) (maxL := 3) (ret := (some .int)) (lv := [(0, .ref (G.2.2 72)), (1, .int (a))]) (by decide) rfl rfl (Nat.le_of_ble_eq_true rfl) ?_
  intro pg ev sg mm bl mt cd AZ C hret
  refine j_aload_n C dL_append_0 rfl ?_
  refine j_iload_n C dL_append_1 rfl ?_
  refine j_callV C h dL_append_2 rfl (by decide) (T := TX5) rfl gL_append_X5_append rfl kd_X5_append rfl rfl (Nat.le_of_ble_eq_true rfl) ⟨by show dd + 1 ≤ 12; omega, by show 8 + (2 + 11) + 48 * dd ≤ 576; omega⟩ ⟨Nat.zero_le _, Nat.zero_le _⟩ (k_IQ fun M1 hq => ?_)
  exact j_ireturn C hret dL_append_5 ⟨rfl, hq⟩

set_option maxHeartbeats 4000000 in
set_option maxRecDepth 100000 in
theorem wt_load {l : Launch} {G : GG} {M : MM} {r : Int32} {P : MM → Prop} {dd : Nat} (hdd : dd ≤ 11) (h : Ct l G yX5_load wsX5_load dd ([.ref (G.2.2 72)] : List Value) M (fun v9 M9 => v9 = some (.int r) ∧ P M9)) : Ct l G yL_load wsL_load 12 ([.ref (G.2.2 72)] : List Value) M (fun v9 M9 => v9 = some (.int r) ∧ P M9) := by
  refine Ct.ofH (cc := cL_load) (maxL := 2) (ret := (some .int)) (lv := [(0, .ref (G.2.2 72))]) (by decide) rfl rfl (Nat.le_of_ble_eq_true rfl) ?_
  intro pg ev sg mm bl mt cd AZ C hret
  refine j_aload_n C dL_load_0 rfl ?_
  refine j_callV C h dL_load_1 rfl (by decide) (T := TX5) rfl gL_load_X5_load rfl kd_X5_load rfl rfl (Nat.le_of_ble_eq_true rfl) ⟨by show dd + 1 ≤ 12; omega, by show 8 + (1 + 11) + 48 * dd ≤ 576; omega⟩ ⟨Nat.zero_le _, Nat.zero_le _⟩ (k_IQ fun M1 hq => ?_)
  exact j_ireturn C hret dL_load_4 ⟨rfl, hq⟩

set_option maxHeartbeats 4000000 in
set_option maxRecDepth 100000 in
theorem wt_undo {l : Launch} {G : GG} {M : MM} {r : Int32} {P : MM → Prop} {dd : Nat} (hdd : dd ≤ 11) (h : Ct l G yX5_undo wsX5_undo dd ([.ref (G.2.2 72)] : List Value) M (fun v9 M9 => v9 = some (.int r) ∧ P M9)) : Ct l G yL_undo wsL_undo 12 ([.ref (G.2.2 72)] : List Value) M (fun v9 M9 => v9 = some (.int r) ∧ P M9) := by
  refine Ct.ofH (cc := cL_undo) (maxL := 2) (ret := (some .int)) (lv := [(0, .ref (G.2.2 72))]) (by decide) rfl rfl (Nat.le_of_ble_eq_true rfl) ?_
  intro pg ev sg mm bl mt cd AZ C hret
  refine j_aload_n C dL_undo_0 rfl ?_
  refine j_callV C h dL_undo_1 rfl (by decide) (T := TX5) rfl gL_undo_X5_undo rfl kd_X5_undo rfl rfl (Nat.le_of_ble_eq_true rfl) ⟨by show dd + 1 ≤ 12; omega, by show 8 + (1 + 11) + 48 * dd ≤ 576; omega⟩ ⟨Nat.zero_le _, Nat.zero_le _⟩ (k_IQ fun M1 hq => ?_)
  exact j_ireturn C hret dL_undo_4 ⟨rfl, hq⟩

set_option maxHeartbeats 4000000 in
set_option maxRecDepth 100000 in
theorem wt_potOf {l : Launch} {G : GG} {M : MM} {a b : Int32} {r : Int32} {P : MM → Prop} {dd : Nat} (hdd : dd ≤ 11) (h : Ct l G yX5_potOf wsX5_potOf dd ([.ref (G.2.2 72), .int a, .int b] : List Value) M (fun v9 M9 => v9 = some (.int r) ∧ P M9)) : Ct l G yL_potOf wsL_potOf 12 ([.ref (G.2.2 72), .int (a), .int (b)] : List Value) M (fun v9 M9 => v9 = some (.int r) ∧ P M9) := by
  refine Ct.ofH (cc := cL_potOf) (maxL := 4) (ret := (some .int)) (lv := [(0, .ref (G.2.2 72)), (1, .int (a)), (2, .int (b))]) (by decide) rfl rfl (Nat.le_of_ble_eq_true rfl) ?_
  intro pg ev sg mm bl mt cd AZ C hret
  refine j_aload_n C dL_potOf_0 rfl ?_
  refine j_iload_n C dL_potOf_1 rfl ?_
  refine j_iload_n C dL_potOf_2 rfl ?_
  refine j_callV C h dL_potOf_3 rfl (by decide) (T := TX5) rfl gL_potOf_X5_potOf rfl kd_X5_potOf rfl rfl (Nat.le_of_ble_eq_true rfl) ⟨by show dd + 1 ≤ 12; omega, by show 8 + (3 + 11) + 48 * dd ≤ 576; omega⟩ ⟨Nat.zero_le _, Nat.zero_le _⟩ (k_IQ fun M1 hq => ?_)
  exact j_ireturn C hret dL_potOf_6 ⟨rfl, hq⟩

set_option maxHeartbeats 4000000 in
set_option maxRecDepth 100000 in
theorem wt_seen {l : Launch} {G : GG} {M : MM} {a b : Int32} {r : Int32} {P : MM → Prop} {dd : Nat} (hdd : dd ≤ 11) (h : Ct l G yX5_seen wsX5_seen dd ([.ref (G.2.2 72), .int a, .int b] : List Value) M (fun v9 M9 => v9 = some (.int r) ∧ P M9)) : Ct l G yL_seen wsL_seen 12 ([.ref (G.2.2 72), .int (a), .int (b)] : List Value) M (fun v9 M9 => v9 = some (.int r) ∧ P M9) := by
  refine Ct.ofH (cc := cL_seen) (maxL := 4) (ret := (some .int)) (lv := [(0, .ref (G.2.2 72)), (1, .int (a)), (2, .int (b))]) (by decide) rfl rfl (Nat.le_of_ble_eq_true rfl) ?_
  intro pg ev sg mm bl mt cd AZ C hret
  refine j_aload_n C dL_seen_0 rfl ?_
  refine j_iload_n C dL_seen_1 rfl ?_
  refine j_iload_n C dL_seen_2 rfl ?_
  refine j_callV C h dL_seen_3 rfl (by decide) (T := TX5) rfl gL_seen_X5_seen rfl kd_X5_seen rfl rfl (Nat.le_of_ble_eq_true rfl) ⟨by show dd + 1 ≤ 12; omega, by show 8 + (3 + 11) + 48 * dd ≤ 576; omega⟩ ⟨Nat.zero_le _, Nat.zero_le _⟩ (k_IQ fun M1 hq => ?_)
  exact j_ireturn C hret dL_seen_6 ⟨rfl, hq⟩

set_option maxHeartbeats 4000000 in
set_option maxRecDepth 100000 in
theorem wt_painterOf {l : Launch} {G : GG} {M : MM} {a b : Int32} {r : Int32} {P : MM → Prop} {dd : Nat} (hdd : dd ≤ 11) (h : Ct l G yX5_painterOf wsX5_painterOf dd ([.ref (G.2.2 72), .int a, .int b] : List Value) M (fun v9 M9 => v9 = some (.int r) ∧ P M9)) : Ct l G yL_painterOf wsL_painterOf 12 ([.ref (G.2.2 72), .int (a), .int (b)] : List Value) M (fun v9 M9 => v9 = some (.int r) ∧ P M9) := by
  refine Ct.ofH (cc := cL_painterOf) (maxL := 4) (ret := (some .int)) (lv := [(0, .ref (G.2.2 72)), (1, .int (a)), (2, .int (b))]) (by decide) rfl rfl (Nat.le_of_ble_eq_true rfl) ?_
  intro pg ev sg mm bl mt cd AZ C hret
  refine j_aload_n C dL_painterOf_0 rfl ?_
  refine j_iload_n C dL_painterOf_1 rfl ?_
  refine j_iload_n C dL_painterOf_2 rfl ?_
  refine j_callV C h dL_painterOf_3 rfl (by decide) (T := TX5) rfl gL_painterOf_X5_painterOf rfl kd_X5_painterOf rfl rfl (Nat.le_of_ble_eq_true rfl) ⟨by show dd + 1 ≤ 12; omega, by show 8 + (3 + 11) + 48 * dd ≤ 576; omega⟩ ⟨Nat.zero_le _, Nat.zero_le _⟩ (k_IQ fun M1 hq => ?_)
  exact j_ireturn C hret dL_painterOf_6 ⟨rfl, hq⟩

set_option maxHeartbeats 4000000 in
set_option maxRecDepth 100000 in
theorem wt_apart {l : Launch} {G : GG} {M : MM} {a b d : Int32} {r : Int32} {P : MM → Prop} {dd : Nat} (hdd : dd ≤ 11) (h : Ct l G yX5_apart wsX5_apart dd ([.ref (G.2.2 72), .int a, .int b, .int d] : List Value) M (fun v9 M9 => v9 = some (.int r) ∧ P M9)) : Ct l G yL_apart wsL_apart 12 ([.ref (G.2.2 72), .int (a), .int (b), .int (d)] : List Value) M (fun v9 M9 => v9 = some (.int r) ∧ P M9) := by
  refine Ct.ofH (cc := cL_apart) (maxL := 5) (ret := (some .int)) (lv := [(0, .ref (G.2.2 72)), (1, .int (a)), (2, .int (b)), (3, .int (d))]) (by decide) rfl rfl (Nat.le_of_ble_eq_true rfl) ?_
  intro pg ev sg mm bl mt cd AZ C hret
  refine j_aload_n C dL_apart_0 rfl ?_
  refine j_iload_n C dL_apart_1 rfl ?_
  refine j_iload_n C dL_apart_2 rfl ?_
  refine j_iload_n C dL_apart_3 rfl ?_
  refine j_callV C h dL_apart_4 rfl (by decide) (T := TX5) rfl gL_apart_X5_apart rfl kd_X5_apart rfl rfl (Nat.le_of_ble_eq_true rfl) ⟨by show dd + 1 ≤ 12; omega, by show 8 + (4 + 11) + 48 * dd ≤ 576; omega⟩ ⟨Nat.zero_le _, Nat.zero_le _⟩ (k_IQ fun M1 hq => ?_)
  exact j_ireturn C hret dL_apart_7 ⟨rfl, hq⟩

set_option maxHeartbeats 4000000 in
set_option maxRecDepth 100000 in
theorem wt_chartOf {l : Launch} {G : GG} {M : MM} {a b : Int32} {r : Int32} {P : MM → Prop} {dd : Nat} (hdd : dd ≤ 11) (h : Ct l G yX5_chartOf wsX5_chartOf dd ([.ref (G.2.2 72), .int a, .int b] : List Value) M (fun v9 M9 => v9 = some (.int r) ∧ P M9)) : Ct l G yL_chartOf wsL_chartOf 12 ([.ref (G.2.2 72), .int (a), .int (b)] : List Value) M (fun v9 M9 => v9 = some (.int r) ∧ P M9) := by
  refine Ct.ofH (cc := cL_chartOf) (maxL := 4) (ret := (some .int)) (lv := [(0, .ref (G.2.2 72)), (1, .int (a)), (2, .int (b))]) (by decide) rfl rfl (Nat.le_of_ble_eq_true rfl) ?_
  intro pg ev sg mm bl mt cd AZ C hret
  refine j_aload_n C dL_chartOf_0 rfl ?_
  refine j_iload_n C dL_chartOf_1 rfl ?_
  refine j_iload_n C dL_chartOf_2 rfl ?_
  refine j_callV C h dL_chartOf_3 rfl (by decide) (T := TX5) rfl gL_chartOf_X5_chartOf rfl kd_X5_chartOf rfl rfl (Nat.le_of_ble_eq_true rfl) ⟨by show dd + 1 ≤ 12; omega, by show 8 + (3 + 11) + 48 * dd ≤ 576; omega⟩ ⟨Nat.zero_le _, Nat.zero_le _⟩ (k_IQ fun M1 hq => ?_)
  exact j_ireturn C hret dL_chartOf_6 ⟨rfl, hq⟩

set_option maxHeartbeats 4000000 in
set_option maxRecDepth 100000 in
theorem wt_count {l : Launch} {G : GG} {M : MM} {a : Int32} {r : Int32} {P : MM → Prop} {dd : Nat} (hdd : dd ≤ 11) (h : Ct l G yX5_count wsX5_count dd ([.ref (G.2.2 72), .int a] : List Value) M (fun v9 M9 => v9 = some (.int r) ∧ P M9)) : Ct l G yL_count wsL_count 12 ([.ref (G.2.2 72), .int (a)] : List Value) M (fun v9 M9 => v9 = some (.int r) ∧ P M9) := by
  refine Ct.ofH (cc := cL_count) (maxL := 3) (ret := (some .int)) (lv := [(0, .ref (G.2.2 72)), (1, .int (a))]) (by decide) rfl rfl (Nat.le_of_ble_eq_true rfl) ?_
  intro pg ev sg mm bl mt cd AZ C hret
  refine j_aload_n C dL_count_0 rfl ?_
  refine j_iload_n C dL_count_1 rfl ?_
  refine j_callV C h dL_count_2 rfl (by decide) (T := TX5) rfl gL_count_X5_count rfl kd_X5_count rfl rfl (Nat.le_of_ble_eq_true rfl) ⟨by show dd + 1 ≤ 12; omega, by show 8 + (2 + 11) + 48 * dd ≤ 576; omega⟩ ⟨Nat.zero_le _, Nat.zero_le _⟩ (k_IQ fun M1 hq => ?_)
  exact j_ireturn C hret dL_count_5 ⟨rfl, hq⟩

set_option maxHeartbeats 4000000 in
set_option maxRecDepth 100000 in
theorem wt_fewest {l : Launch} {G : GG} {M : MM} {a b : Int32} {r : Int32} {P : MM → Prop} {dd : Nat} (hdd : dd ≤ 11) (h : Ct l G yX5_fewest wsX5_fewest dd ([.ref (G.2.2 72), .int a, .int b] : List Value) M (fun v9 M9 => v9 = some (.int r) ∧ P M9)) : Ct l G yL_fewest wsL_fewest 12 ([.ref (G.2.2 72), .int (a), .int (b)] : List Value) M (fun v9 M9 => v9 = some (.int r) ∧ P M9) := by
  refine Ct.ofH (cc := cL_fewest) (maxL := 4) (ret := (some .int)) (lv := [(0, .ref (G.2.2 72)), (1, .int (a)), (2, .int (b))]) (by decide) rfl rfl (Nat.le_of_ble_eq_true rfl) ?_
  intro pg ev sg mm bl mt cd AZ C hret
  refine j_aload_n C dL_fewest_0 rfl ?_
  refine j_iload_n C dL_fewest_1 rfl ?_
  refine j_iload_n C dL_fewest_2 rfl ?_
  refine j_callV C h dL_fewest_3 rfl (by decide) (T := TX5) rfl gL_fewest_X5_fewest rfl kd_X5_fewest rfl rfl (Nat.le_of_ble_eq_true rfl) ⟨by show dd + 1 ≤ 12; omega, by show 8 + (3 + 11) + 48 * dd ≤ 576; omega⟩ ⟨Nat.zero_le _, Nat.zero_le _⟩ (k_IQ fun M1 hq => ?_)
  exact j_ireturn C hret dL_fewest_6 ⟨rfl, hq⟩

set_option maxHeartbeats 4000000 in
set_option maxRecDepth 100000 in
theorem wt_ifBorrowed {l : Launch} {G : GG} {M : MM} {a b : Int32} {r : Int32} {P : MM → Prop} {dd : Nat} (hdd : dd ≤ 11) (h : Ct l G yX5_ifBorrowed wsX5_ifBorrowed dd ([.ref (G.2.2 72), .int a, .int b] : List Value) M (fun v9 M9 => v9 = some (.int r) ∧ P M9)) : Ct l G yL_ifBorrowed wsL_ifBorrowed 12 ([.ref (G.2.2 72), .int (a), .int (b)] : List Value) M (fun v9 M9 => v9 = some (.int r) ∧ P M9) := by
  refine Ct.ofH (cc := cL_ifBorrowed) (maxL := 4) (ret := (some .int)) (lv := [(0, .ref (G.2.2 72)), (1, .int (a)), (2, .int (b))]) (by decide) rfl rfl (Nat.le_of_ble_eq_true rfl) ?_
  intro pg ev sg mm bl mt cd AZ C hret
  refine j_aload_n C dL_ifBorrowed_0 rfl ?_
  refine j_iload_n C dL_ifBorrowed_1 rfl ?_
  refine j_iload_n C dL_ifBorrowed_2 rfl ?_
  refine j_callV C h dL_ifBorrowed_3 rfl (by decide) (T := TX5) rfl gL_ifBorrowed_X5_ifBorrowed rfl kd_X5_ifBorrowed rfl rfl (Nat.le_of_ble_eq_true rfl) ⟨by show dd + 1 ≤ 12; omega, by show 8 + (3 + 11) + 48 * dd ≤ 576; omega⟩ ⟨Nat.zero_le _, Nat.zero_le _⟩ (k_IQ fun M1 hq => ?_)
  exact j_ireturn C hret dL_ifBorrowed_6 ⟨rfl, hq⟩

set_option maxHeartbeats 4000000 in
set_option maxRecDepth 100000 in
theorem wt_leastChange {l : Launch} {G : GG} {M : MM} {a b d : Int32} {r : Int32} {P : MM → Prop} {dd : Nat} (hdd : dd ≤ 11) (h : Ct l G yX5_leastChange wsX5_leastChange dd ([.ref (G.2.2 72), .int a, .int b, .int d] : List Value) M (fun v9 M9 => v9 = some (.int r) ∧ P M9)) : Ct l G yL_leastChange wsL_leastChange 12 ([.ref (G.2.2 72), .int (a), .int (b), .int (d)] : List Value) M (fun v9 M9 => v9 = some (.int r) ∧ P M9) := by
  refine Ct.ofH (cc := cL_leastChange) (maxL := 5) (ret := (some .int)) (lv := [(0, .ref (G.2.2 72)), (1, .int (a)), (2, .int (b)), (3, .int (d))]) (by decide) rfl rfl (Nat.le_of_ble_eq_true rfl) ?_
  intro pg ev sg mm bl mt cd AZ C hret
  refine j_aload_n C dL_leastChange_0 rfl ?_
  refine j_iload_n C dL_leastChange_1 rfl ?_
  refine j_iload_n C dL_leastChange_2 rfl ?_
  refine j_iload_n C dL_leastChange_3 rfl ?_
  refine j_callV C h dL_leastChange_4 rfl (by decide) (T := TX5) rfl gL_leastChange_X5_leastChange rfl kd_X5_leastChange rfl rfl (Nat.le_of_ble_eq_true rfl) ⟨by show dd + 1 ≤ 12; omega, by show 8 + (5 + 11) + 48 * dd ≤ 576; omega⟩ ⟨Nat.zero_le _, Nat.zero_le _⟩ (k_IQ fun M1 hq => ?_)
  exact j_ireturn C hret dL_leastChange_7 ⟨rfl, hq⟩

set_option maxHeartbeats 4000000 in
set_option maxRecDepth 100000 in
theorem wo_takeDown {l : Launch} {G : GG} {M : MM} {a : Int32} {r : Int32} {P : MM → Prop} {dd : Nat} (hdd : dd ≤ 11) (h : Ct l G yX5_takeDown wsX5_takeDown dd ([.ref (G.2.2 72), .int a] : List Value) M (fun v9 M9 => v9 = some (.int r) ∧ P M9)) : Cw l G yL_takeDown wsL_takeDown 12 ([.ref (G.2.2 72), .int (a)] : List Value) M (fun v9 M9 => v9 = some (.int r) ∧ P M9) := by
  refine Cw.of (cc := cL_takeDown) (maxL := 3) (ret := (some .int)) (lv := [(0, .ref (G.2.2 72)), (1, .int (a))]) (by decide) rfl rfl (Nat.le_of_ble_eq_true rfl) ?_
  intro pg ev sg mm bl mt cd AZ C hXw htab hret
  refine j_widen (k := 1) (n := 6) (Nat.zero_le _) (Nat.zero_le _) ?_
  refine j_aload_n C dL_takeDown_0 rfl ?_
  refine j_iload_n C dL_takeDown_1 rfl ?_
  refine j_callV C h dL_takeDown_2 rfl (by decide) (T := TX5) rfl gL_takeDown_X5_takeDown rfl kd_X5_takeDown rfl rfl (Nat.le_of_ble_eq_true rfl) ⟨by show dd + 1 ≤ 18; omega, by show 8 + (3 + 11) + 48 * dd ≤ 672; omega⟩ ⟨Nat.le_refl _, Nat.le_refl _⟩ (k_IQ fun M1 hq => ?_)
  exact j_ireturn C hret dL_takeDown_5 ⟨rfl, hq⟩

set_option maxHeartbeats 4000000 in
set_option maxRecDepth 100000 in
theorem wo_correct {l : Launch} {G : GG} {M : MM} {a b : Int32} {r : Int32} {P : MM → Prop} {dd : Nat} (hdd : dd ≤ 11) (h : Ct l G yX5_correct wsX5_correct dd ([.ref (G.2.2 72), .int a, .int b] : List Value) M (fun v9 M9 => v9 = some (.int r) ∧ P M9)) : Cw l G yL_correct wsL_correct 12 ([.ref (G.2.2 72), .int (a), .int (b)] : List Value) M (fun v9 M9 => v9 = some (.int r) ∧ P M9) := by
  refine Cw.of (cc := cL_correct) (maxL := 4) (ret := (some .int)) (lv := [(0, .ref (G.2.2 72)), (1, .int (a)), (2, .int (b))]) (by decide) rfl rfl (Nat.le_of_ble_eq_true rfl) ?_
  intro pg ev sg mm bl mt cd AZ C hXw htab hret
  refine j_widen (k := 1) (n := 6) (Nat.zero_le _) (Nat.zero_le _) ?_
  refine j_aload_n C dL_correct_0 rfl ?_
  refine j_iload_n C dL_correct_1 rfl ?_
  refine j_iload_n C dL_correct_2 rfl ?_
  refine j_callV C h dL_correct_3 rfl (by decide) (T := TX5) rfl gL_correct_X5_correct rfl kd_X5_correct rfl rfl (Nat.le_of_ble_eq_true rfl) ⟨by show dd + 1 ≤ 18; omega, by show 8 + (3 + 11) + 48 * dd ≤ 672; omega⟩ ⟨Nat.le_refl _, Nat.le_refl _⟩ (k_IQ fun M1 hq => ?_)
  exact j_ireturn C hret dL_correct_6 ⟨rfl, hq⟩

set_option maxHeartbeats 4000000 in
set_option maxRecDepth 100000 in
theorem we_takeDown {l : Launch} {G : GG} {M : MM} {a : Int32} {dd : Nat} (hdd : dd ≤ 2) (h : Tt l G yX5_takeDown wsX5_takeDown dd ([.ref (G.2.2 72), .int a] : List Value) M "java/lang/IndexOutOfBoundsException") : Cw l G yL_takeDown wsL_takeDown 12 ([.ref (G.2.2 72), .int (a)] : List Value) M (rI (-1000001) M) := by
  refine Cw.of (cc := cL_takeDown) (maxL := 3) (ret := (some .int)) (lv := [(0, .ref (G.2.2 72)), (1, .int (a))]) (by decide) rfl rfl (Nat.le_of_ble_eq_true rfl) ?_
  intro pg ev sg mm bl mt cd AZ C hXw htab hret
  refine j_aload_n C dL_takeDown_0 rfl ?_
  refine j_iload_n C dL_takeDown_1 rfl ?_
  refine j_callCV C hXw [] ⟨0, 5, 6, 16⟩ [] (htab.trans rfl) (fun _ hz => absurd hz List.not_mem_nil) rfl (by decide) cl_L_takeDown_16 (by decide +kernel) h dL_takeDown_2 rfl (by decide) (T := TX5) rfl gL_takeDown_X5_takeDown rfl kd_X5_takeDown rfl rfl (Nat.le_of_ble_eq_true rfl) ⟨by show dd + 6 + 1 ≤ 18; omega, by show 8 + (3 + 11) + (48 * dd + 96) ≤ 672; omega⟩ ⟨Nat.le_refl _, Nat.le_refl _⟩ (fun q9 => ?_)
  show J G pg l ev (rmX 12) sg mm _ bl mt cd AZ _ _ 1 6 6 _ _ _
  refine j_astore_n C dL_takeDown_6 (by decide) ?_
  refine j_ldc C dL_takeDown_7 cst_L_takeDown_18 ?_
  exact j_ireturn C hret dL_takeDown_9 ⟨rfl, rfl⟩

set_option maxHeartbeats 4000000 in
set_option maxRecDepth 100000 in
theorem we_correct {l : Launch} {G : GG} {M : MM} {a b : Int32} {dd : Nat} (hdd : dd ≤ 2) (h : Tt l G yX5_correct wsX5_correct dd ([.ref (G.2.2 72), .int a, .int b] : List Value) M "java/lang/IndexOutOfBoundsException") : Cw l G yL_correct wsL_correct 12 ([.ref (G.2.2 72), .int (a), .int (b)] : List Value) M (rI (-1000001) M) := by
  refine Cw.of (cc := cL_correct) (maxL := 4) (ret := (some .int)) (lv := [(0, .ref (G.2.2 72)), (1, .int (a)), (2, .int (b))]) (by decide) rfl rfl (Nat.le_of_ble_eq_true rfl) ?_
  intro pg ev sg mm bl mt cd AZ C hXw htab hret
  refine j_aload_n C dL_correct_0 rfl ?_
  refine j_iload_n C dL_correct_1 rfl ?_
  refine j_iload_n C dL_correct_2 rfl ?_
  refine j_callCV C hXw [] ⟨0, 6, 7, 16⟩ [] (htab.trans rfl) (fun _ hz => absurd hz List.not_mem_nil) rfl (by decide) cl_L_correct_16 (by decide +kernel) h dL_correct_3 rfl (by decide) (T := TX5) rfl gL_correct_X5_correct rfl kd_X5_correct rfl rfl (Nat.le_of_ble_eq_true rfl) ⟨by show dd + 6 + 1 ≤ 18; omega, by show 8 + (3 + 11) + (48 * dd + 96) ≤ 672; omega⟩ ⟨Nat.le_refl _, Nat.le_refl _⟩ (fun q9 => ?_)
  show J G pg l ev (rmX 12) sg mm _ bl mt cd AZ _ _ 1 6 7 _ _ _
  refine j_astore_n C dL_correct_7 (by decide) ?_
  refine j_ldc C dL_correct_8 cst_L_correct_18 ?_
  exact j_ireturn C hret dL_correct_10 ⟨rfl, rfl⟩
