set_option maxRecDepth 20000 in
theorem ks_X1_partOf : yX1_partOf.cls ≠ "java/lang/invoke/MethodHandle" ∧ yX1_partOf.cls ≠ "java/lang/invoke/VarHandle" ∧ (parseMethodDescriptor yX1_partOf.desc).map (fun d => d.parameters.length) = some 2 := by decide +kernel
set_option maxRecDepth 20000 in
theorem ks_X1_seenAs : yX1_seenAs.cls ≠ "java/lang/invoke/MethodHandle" ∧ yX1_seenAs.cls ≠ "java/lang/invoke/VarHandle" ∧ (parseMethodDescriptor yX1_seenAs.desc).map (fun d => d.parameters.length) = some 2 := by decide +kernel
set_option maxRecDepth 20000 in
theorem ml_X1_distance_16 : Cond.methodLink RX1 16 Lib.Math.abs.name ∈ wsX1_distance := by decide +kernel
set_option maxRecDepth 20000 in
theorem ms_X1_distance_abs : Cond.static Lib.Math.abs.name ∈ wsX1_distance := by decide +kernel
set_option maxRecDepth 20000 in
theorem mi_X1_distance : Cond.initialized "java/lang/Math" ∈ wsX1_distance := by decide +kernel
set_option maxRecDepth 20000 in
theorem mc_X1_distance_abs : Cond.code Lib.Math.abs.name Lib.Math.abs.code 1 (some .int) ∈ wsX1_distance := by decide +kernel
set_option maxRecDepth 20000 in
theorem ks_X1_distance : yX1_distance.cls ≠ "java/lang/invoke/MethodHandle" ∧ yX1_distance.cls ≠ "java/lang/invoke/VarHandle" ∧ (parseMethodDescriptor yX1_distance.desc).map (fun d => d.parameters.length) = some 3 := by decide +kernel
set_option maxHeartbeats 4000000 in
set_option maxRecDepth 100000 in
theorem ct_partOf_0 {l : Launch} {G : GG} {M : MM} {r g b : Nat} (hr : r ≤ 9) (hg : g ≤ 9) (hb : b ≤ 9) : Ct l G yX1_partOf wsX1_partOf 1 ([.int (nI (cod r g b)), .int (nI 0)] : List Value) M (rI (nI r) M) := by
  have hlt := cod_lt hr hg hb
  refine Ct.of (cc := cX1_partOf) (maxL := 2) (ret := (some .int)) (lv := [(0, .int (nI (cod r g b))), (1, .int (nI 0))]) (by decide) rfl rfl (Nat.le_of_ble_eq_true rfl) ?_
  intro pg ev sg mm bl mt cd AZ C hret
  refine j_iload_n C dX1_partOf_0 rfl ?_
  refine j_lookup C dX1_partOf_1 (off := 27) (tgt := 28) (by decide) (by decide) (by decide) ?_
  refine j_iload_n C dX1_partOf_28 rfl ?_
  refine j_bipush C dX1_partOf_29 (v := nI 100) (by decide) ?_
  refine j_idivN C dX1_partOf_31 (by have := cod_lt hr hg hb; omega) (by decide) (by decide) ?_
  exact j_ireturn C hret dX1_partOf_32 ⟨congrArg (fun z => some (Value.int (nI z))) (cod_r hg hb), rfl⟩

set_option maxHeartbeats 4000000 in
set_option maxRecDepth 100000 in
theorem ct_partOf_1 {l : Launch} {G : GG} {M : MM} {r g b : Nat} (hr : r ≤ 9) (hg : g ≤ 9) (hb : b ≤ 9) : Ct l G yX1_partOf wsX1_partOf 1 ([.int (nI (cod r g b)), .int (nI 1)] : List Value) M (rI (nI g) M) := by
  have hlt := cod_lt hr hg hb
  refine Ct.of (cc := cX1_partOf) (maxL := 2) (ret := (some .int)) (lv := [(0, .int (nI (cod r g b))), (1, .int (nI 1))]) (by decide) rfl rfl (Nat.le_of_ble_eq_true rfl) ?_
  intro pg ev sg mm bl mt cd AZ C hret
  refine j_iload_n C dX1_partOf_0 rfl ?_
  refine j_lookup C dX1_partOf_1 (off := 32) (tgt := 33) (by decide) (by decide) (by decide) ?_
  refine j_iload_n C dX1_partOf_33 rfl ?_
  refine j_bipush C dX1_partOf_34 (v := nI 10) (by decide) ?_
  refine j_idivN C dX1_partOf_36 (by have := cod_lt hr hg hb; omega) (by decide) (by decide) ?_
  refine j_bipush C dX1_partOf_37 (v := nI 10) (by decide) ?_
  refine j_iremN C dX1_partOf_39 (by have := cod_lt hr hg hb; omega) (by decide) (by decide) ?_
  exact j_ireturn C hret dX1_partOf_40 ⟨congrArg (fun z => some (Value.int (nI z))) (cod_g hg hb), rfl⟩

set_option maxHeartbeats 4000000 in
set_option maxRecDepth 100000 in
theorem ct_partOf_2 {l : Launch} {G : GG} {M : MM} {r g b : Nat} (hr : r ≤ 9) (hg : g ≤ 9) (hb : b ≤ 9) : Ct l G yX1_partOf wsX1_partOf 1 ([.int (nI (cod r g b)), .int (nI 2)] : List Value) M (rI (nI b) M) := by
  have hlt := cod_lt hr hg hb
  refine Ct.of (cc := cX1_partOf) (maxL := 2) (ret := (some .int)) (lv := [(0, .int (nI (cod r g b))), (1, .int (nI 2))]) (by decide) rfl rfl (Nat.le_of_ble_eq_true rfl) ?_
  intro pg ev sg mm bl mt cd AZ C hret
  refine j_iload_n C dX1_partOf_0 rfl ?_
  refine j_lookup C dX1_partOf_1 (off := 40) (tgt := 41) (by decide) (by decide) (by decide) ?_
  refine j_iload_n C dX1_partOf_41 rfl ?_
  refine j_bipush C dX1_partOf_42 (v := nI 10) (by decide) ?_
  refine j_iremN C dX1_partOf_44 (by have := cod_lt hr hg hb; omega) (by decide) (by decide) ?_
  exact j_ireturn C hret dX1_partOf_45 ⟨congrArg (fun z => some (Value.int (nI z))) (cod_b hb), rfl⟩

def pr3 (k r g b : Nat) : Nat := match k with | 0 => r | 1 => g | _ => b
theorem ct_partOf {l : Launch} {G : GG} {M : MM} {r g b k : Nat} (hr : r ≤ 9) (hg : g ≤ 9) (hb : b ≤ 9) (hk : k ≤ 2) : Ct l G yX1_partOf wsX1_partOf 1 [.int (nI (cod r g b)), .int (nI k)] M (rI (nI (pr3 k r g b)) M) := by
  rcases (show k = 0 ∨ k = 1 ∨ k = 2 by omega) with rfl | rfl | rfl
  · exact ct_partOf_0 hr hg hb
  · exact ct_partOf_1 hr hg hb
  · exact ct_partOf_2 hr hg hb

theorem withPart_0 {r g b v : Nat} (hr : r ≤ 9) (hg : g ≤ 9) (hb : b ≤ 9) (hv : v ≤ 9) : nI (cod r g b) + (nI v - nI (pr3 0 r g b)) * nI 100 = nI (cod v g b) := by
  have h : ∀ x y z w u : Int32, u + y * w = x + z * w → x + (z - y) * w = u := fun x y z w u h => by
    grind
  refine h _ _ _ _ _ ?_
  rw [pk_mul, pk_mul, nI_add, nI_add]
  exact congrArg nI (by simp only [cod, pr3]; omega)

set_option maxHeartbeats 4000000 in
set_option maxRecDepth 100000 in
theorem ct_withPart_0 {l : Launch} {G : GG} {M : MM} {r g b v : Nat} (hr : r ≤ 9) (hg : g ≤ 9) (hb : b ≤ 9) (hv : v ≤ 9) : Ct l G yX1_withPart wsX1_withPart 2 ([.int (nI (cod r g b)), .int (nI 0), .int (nI v)] : List Value) M (rI (nI (cod v g b)) M) := by
  refine Ct.of (cc := cX1_withPart) (maxL := 4) (ret := (some .int)) (lv := [(0, .int (nI (cod r g b))), (1, .int (nI 0)), (2, .int (nI v))]) (by decide) rfl rfl (Nat.le_of_ble_eq_true rfl) ?_
  intro pg ev sg mm bl mt cd AZ C hret
  refine j_iload_n C dX1_withPart_0 rfl ?_
  refine j_if_neN C dX1_withPart_1 (tgt := 9) (by decide) (by omega) (fun cq1 => absurd cq1 (by decide)) (fun cq1 => ?_)
  refine j_bipush C dX1_withPart_4 (v := nI 100) (by decide) ?_
  refine j_goto C dX1_withPart_6 (tgt := 20) (by decide) ?_
  refine j_istore_n C dX1_withPart_20 (by decide) ?_
  refine j_iload_n C dX1_withPart_21 rfl ?_
  refine j_iload_n C dX1_withPart_22 rfl ?_
  refine j_iload_n C dX1_withPart_23 rfl ?_
  refine j_iload_n C dX1_withPart_24 rfl ?_
  refine j_callS C (ct_partOf hr hg hb (by decide)) dX1_withPart_25 gX1_withPart_X1_partOf rfl ks_X1_partOf rfl rfl (Nat.le_of_ble_eq_true rfl) ⟨by decide, by decide⟩ ⟨Nat.zero_le _, Nat.zero_le _⟩ (k_I ?_)
  refine j_isub C dX1_withPart_28 ?_
  refine j_iload_n C dX1_withPart_29 rfl ?_
  refine j_imul C dX1_withPart_30 ?_
  refine j_iadd C dX1_withPart_31 ?_
  exact j_ireturn C hret dX1_withPart_32 ⟨congrArg (fun z => some (Value.int z)) (withPart_0 hr hg hb hv), rfl⟩

theorem withPart_1 {r g b v : Nat} (hr : r ≤ 9) (hg : g ≤ 9) (hb : b ≤ 9) (hv : v ≤ 9) : nI (cod r g b) + (nI v - nI (pr3 1 r g b)) * nI 10 = nI (cod r v b) := by
  have h : ∀ x y z w u : Int32, u + y * w = x + z * w → x + (z - y) * w = u := fun x y z w u h => by
    grind
  refine h _ _ _ _ _ ?_
  rw [pk_mul, pk_mul, nI_add, nI_add]
  exact congrArg nI (by simp only [cod, pr3]; omega)

set_option maxHeartbeats 4000000 in
set_option maxRecDepth 100000 in
theorem ct_withPart_1 {l : Launch} {G : GG} {M : MM} {r g b v : Nat} (hr : r ≤ 9) (hg : g ≤ 9) (hb : b ≤ 9) (hv : v ≤ 9) : Ct l G yX1_withPart wsX1_withPart 2 ([.int (nI (cod r g b)), .int (nI 1), .int (nI v)] : List Value) M (rI (nI (cod r v b)) M) := by
  refine Ct.of (cc := cX1_withPart) (maxL := 4) (ret := (some .int)) (lv := [(0, .int (nI (cod r g b))), (1, .int (nI 1)), (2, .int (nI v))]) (by decide) rfl rfl (Nat.le_of_ble_eq_true rfl) ?_
  intro pg ev sg mm bl mt cd AZ C hret
  refine j_iload_n C dX1_withPart_0 rfl ?_
  refine j_if_neN C dX1_withPart_1 (tgt := 9) (by decide) (by omega) (fun cq1 => ?_) (fun cq1 => absurd cq1 (by decide))
  refine j_iload_n C dX1_withPart_9 rfl ?_
  refine j_iconst C dX1_withPart_10 (v := nI 1) (by decide) ?_
  refine j_icmp_neN C dX1_withPart_11 (tgt := 19) (by decide) (by omega) (by omega) (fun cq11 => absurd cq11 (by decide)) (fun cq11 => ?_)
  refine j_bipush C dX1_withPart_14 (v := nI 10) (by decide) ?_
  refine j_goto C dX1_withPart_16 (tgt := 20) (by decide) ?_
  refine j_istore_n C dX1_withPart_20 (by decide) ?_
  refine j_iload_n C dX1_withPart_21 rfl ?_
  refine j_iload_n C dX1_withPart_22 rfl ?_
  refine j_iload_n C dX1_withPart_23 rfl ?_
  refine j_iload_n C dX1_withPart_24 rfl ?_
  refine j_callS C (ct_partOf hr hg hb (by decide)) dX1_withPart_25 gX1_withPart_X1_partOf rfl ks_X1_partOf rfl rfl (Nat.le_of_ble_eq_true rfl) ⟨by decide, by decide⟩ ⟨Nat.zero_le _, Nat.zero_le _⟩ (k_I ?_)
  refine j_isub C dX1_withPart_28 ?_
  refine j_iload_n C dX1_withPart_29 rfl ?_
  refine j_imul C dX1_withPart_30 ?_
  refine j_iadd C dX1_withPart_31 ?_
  exact j_ireturn C hret dX1_withPart_32 ⟨congrArg (fun z => some (Value.int z)) (withPart_1 hr hg hb hv), rfl⟩

theorem withPart_2 {r g b v : Nat} (hr : r ≤ 9) (hg : g ≤ 9) (hb : b ≤ 9) (hv : v ≤ 9) : nI (cod r g b) + (nI v - nI (pr3 2 r g b)) * nI 1 = nI (cod r g v) := by
  have h : ∀ x y z w u : Int32, u + y * w = x + z * w → x + (z - y) * w = u := fun x y z w u h => by
    grind
  refine h _ _ _ _ _ ?_
  rw [pk_mul, pk_mul, nI_add, nI_add]
  exact congrArg nI (by simp only [cod, pr3]; omega)

set_option maxHeartbeats 4000000 in
set_option maxRecDepth 100000 in
theorem ct_withPart_2 {l : Launch} {G : GG} {M : MM} {r g b v : Nat} (hr : r ≤ 9) (hg : g ≤ 9) (hb : b ≤ 9) (hv : v ≤ 9) : Ct l G yX1_withPart wsX1_withPart 2 ([.int (nI (cod r g b)), .int (nI 2), .int (nI v)] : List Value) M (rI (nI (cod r g v)) M) := by
  refine Ct.of (cc := cX1_withPart) (maxL := 4) (ret := (some .int)) (lv := [(0, .int (nI (cod r g b))), (1, .int (nI 2)), (2, .int (nI v))]) (by decide) rfl rfl (Nat.le_of_ble_eq_true rfl) ?_
  intro pg ev sg mm bl mt cd AZ C hret
  refine j_iload_n C dX1_withPart_0 rfl ?_
  refine j_if_neN C dX1_withPart_1 (tgt := 9) (by decide) (by omega) (fun cq1 => ?_) (fun cq1 => absurd cq1 (by decide))
  refine j_iload_n C dX1_withPart_9 rfl ?_
  refine j_iconst C dX1_withPart_10 (v := nI 1) (by decide) ?_
  refine j_icmp_neN C dX1_withPart_11 (tgt := 19) (by decide) (by omega) (by omega) (fun cq11 => ?_) (fun cq11 => absurd cq11 (by decide))
  refine j_iconst C dX1_withPart_19 (v := nI 1) (by decide) ?_
  refine j_istore_n C dX1_withPart_20 (by decide) ?_
  refine j_iload_n C dX1_withPart_21 rfl ?_
  refine j_iload_n C dX1_withPart_22 rfl ?_
  refine j_iload_n C dX1_withPart_23 rfl ?_
  refine j_iload_n C dX1_withPart_24 rfl ?_
  refine j_callS C (ct_partOf hr hg hb (by decide)) dX1_withPart_25 gX1_withPart_X1_partOf rfl ks_X1_partOf rfl rfl (Nat.le_of_ble_eq_true rfl) ⟨by decide, by decide⟩ ⟨Nat.zero_le _, Nat.zero_le _⟩ (k_I ?_)
  refine j_isub C dX1_withPart_28 ?_
  refine j_iload_n C dX1_withPart_29 rfl ?_
  refine j_imul C dX1_withPart_30 ?_
  refine j_iadd C dX1_withPart_31 ?_
  exact j_ireturn C hret dX1_withPart_32 ⟨congrArg (fun z => some (Value.int z)) (withPart_2 hr hg hb hv), rfl⟩

def st3 (k v : Nat) (r g b : Nat) : Nat := match k with | 0 => cod v g b | 1 => cod r v b | _ => cod r g v
theorem ct_withPart {l : Launch} {G : GG} {M : MM} {r g b k v : Nat} (hr : r ≤ 9) (hg : g ≤ 9) (hb : b ≤ 9) (hv : v ≤ 9) (hk : k ≤ 2) : Ct l G yX1_withPart wsX1_withPart 2 [.int (nI (cod r g b)), .int (nI k), .int (nI v)] M (rI (nI (st3 k v r g b)) M) := by
  rcases (show k = 0 ∨ k = 1 ∨ k = 2 by omega) with rfl | rfl | rfl
  · exact ct_withPart_0 hr hg hb hv
  · exact ct_withPart_1 hr hg hb hv
  · exact ct_withPart_2 hr hg hb hv

set_option maxHeartbeats 4000000 in
set_option maxRecDepth 100000 in
theorem ct_seenAs_0 {l : Launch} {G : GG} {M : MM} {r g b : Nat} (hr : r ≤ 9) (hg : g ≤ 9) (hb : b ≤ 9) : Ct l G yX1_seenAs wsX1_seenAs 1 ([.int (nI 0), .int (nI (cod r g b))] : List Value) M (rI (nI (cod (sR 0 r g b) (sG 0 r g b) (sB 0 r g b))) M) := by
  have hlt := cod_lt hr hg hb
  refine Ct.of (cc := cX1_seenAs) (maxL := 5) (ret := (some .int)) (lv := [(0, .int (nI 0)), (1, .int (nI (cod r g b)))]) (by decide) rfl rfl (Nat.le_of_ble_eq_true rfl) ?_
  intro pg ev sg mm bl mt cd AZ C hret
  refine j_iload_n C dX1_seenAs_0 rfl ?_
  refine j_bipush C dX1_seenAs_1 (v := nI 100) (by decide) ?_
  refine j_idivN C dX1_seenAs_3 (by omega) (by decide) (by decide) ?_
  refine j_istore_n C dX1_seenAs_4 (by decide) ?_
  refine j_iload_n C dX1_seenAs_5 rfl ?_
  refine j_bipush C dX1_seenAs_6 (v := nI 10) (by decide) ?_
  refine j_idivN C dX1_seenAs_8 (by omega) (by decide) (by decide) ?_
  refine j_bipush C dX1_seenAs_9 (v := nI 10) (by decide) ?_
  refine j_iremN C dX1_seenAs_11 (by omega) (by decide) (by decide) ?_
  refine j_istore_n C dX1_seenAs_12 (by decide) ?_
  refine j_iload_n C dX1_seenAs_13 rfl ?_
  refine j_bipush C dX1_seenAs_14 (v := nI 10) (by decide) ?_
  refine j_iremN C dX1_seenAs_16 (by omega) (by decide) (by decide) ?_
  refine j_istore C dX1_seenAs_17 (by decide) ?_
  refine j_iload_n C dX1_seenAs_19 rfl ?_
  refine j_tableOut C dX1_seenAs_20 (tgt := 82) (by decide) (by decide) ?_
  refine j_iload_n C dX1_seenAs_82 rfl ?_
  exact j_ireturn C hret dX1_seenAs_83 ⟨congrArg (fun z => some (Value.int (nI z))) (rfl), rfl⟩

set_option maxHeartbeats 4000000 in
set_option maxRecDepth 100000 in
theorem ct_seenAs_1 {l : Launch} {G : GG} {M : MM} {r g b : Nat} (hr : r ≤ 9) (hg : g ≤ 9) (hb : b ≤ 9) : Ct l G yX1_seenAs wsX1_seenAs 1 ([.int (nI 1), .int (nI (cod r g b))] : List Value) M (rI (nI (cod (sR 1 r g b) (sG 1 r g b) (sB 1 r g b))) M) := by
  have hlt := cod_lt hr hg hb
  refine Ct.of (cc := cX1_seenAs) (maxL := 5) (ret := (some .int)) (lv := [(0, .int (nI 1)), (1, .int (nI (cod r g b)))]) (by decide) rfl rfl (Nat.le_of_ble_eq_true rfl) ?_
  intro pg ev sg mm bl mt cd AZ C hret
  refine j_iload_n C dX1_seenAs_0 rfl ?_
  refine j_bipush C dX1_seenAs_1 (v := nI 100) (by decide) ?_
  refine j_idivN C dX1_seenAs_3 (by omega) (by decide) (by decide) ?_
  refine j_istore_n C dX1_seenAs_4 (by decide) ?_
  refine j_iload_n C dX1_seenAs_5 rfl ?_
  refine j_bipush C dX1_seenAs_6 (v := nI 10) (by decide) ?_
  refine j_idivN C dX1_seenAs_8 (by omega) (by decide) (by decide) ?_
  refine j_bipush C dX1_seenAs_9 (v := nI 10) (by decide) ?_
  refine j_iremN C dX1_seenAs_11 (by omega) (by decide) (by decide) ?_
  refine j_istore_n C dX1_seenAs_12 (by decide) ?_
  refine j_iload_n C dX1_seenAs_13 rfl ?_
  refine j_bipush C dX1_seenAs_14 (v := nI 10) (by decide) ?_
  refine j_iremN C dX1_seenAs_16 (by omega) (by decide) (by decide) ?_
  refine j_istore C dX1_seenAs_17 (by decide) ?_
  refine j_iload_n C dX1_seenAs_19 rfl ?_
  refine j_tableIn C dX1_seenAs_20 (off := 28) (tgt := 48) (by decide) (by decide) (by decide) (by decide) ?_
  refine j_bipush C dX1_seenAs_48 (v := nI 110) (by decide) ?_
  refine j_iload_n C dX1_seenAs_50 rfl ?_
  refine j_iload_n C dX1_seenAs_51 rfl ?_
  refine j_iaddN C dX1_seenAs_52 ?_
  refine j_iconst C dX1_seenAs_53 (v := nI 2) (by decide) ?_
  refine j_idivN C dX1_seenAs_54 (by omega) (by decide) (by decide) ?_
  refine j_imulN C dX1_seenAs_55 ?_
  refine j_iload C dX1_seenAs_56 rfl ?_
  refine j_iaddN C dX1_seenAs_58 ?_
  exact j_ireturn C hret dX1_seenAs_59 ⟨congrArg (fun z => some (Value.int (nI z))) (by rw [cod_r hg hb, cod_g hg hb, cod_b hb]; simp only [cod, sR, sG, sB]; omega), rfl⟩

set_option maxHeartbeats 4000000 in
set_option maxRecDepth 100000 in
theorem ct_seenAs_2 {l : Launch} {G : GG} {M : MM} {r g b : Nat} (hr : r ≤ 9) (hg : g ≤ 9) (hb : b ≤ 9) : Ct l G yX1_seenAs wsX1_seenAs 1 ([.int (nI 2), .int (nI (cod r g b))] : List Value) M (rI (nI (cod (sR 2 r g b) (sG 2 r g b) (sB 2 r g b))) M) := by
  have hlt := cod_lt hr hg hb
  refine Ct.of (cc := cX1_seenAs) (maxL := 5) (ret := (some .int)) (lv := [(0, .int (nI 2)), (1, .int (nI (cod r g b)))]) (by decide) rfl rfl (Nat.le_of_ble_eq_true rfl) ?_
  intro pg ev sg mm bl mt cd AZ C hret
  refine j_iload_n C dX1_seenAs_0 rfl ?_
  refine j_bipush C dX1_seenAs_1 (v := nI 100) (by decide) ?_
  refine j_idivN C dX1_seenAs_3 (by omega) (by decide) (by decide) ?_
  refine j_istore_n C dX1_seenAs_4 (by decide) ?_
  refine j_iload_n C dX1_seenAs_5 rfl ?_
  refine j_bipush C dX1_seenAs_6 (v := nI 10) (by decide) ?_
  refine j_idivN C dX1_seenAs_8 (by omega) (by decide) (by decide) ?_
  refine j_bipush C dX1_seenAs_9 (v := nI 10) (by decide) ?_
  refine j_iremN C dX1_seenAs_11 (by omega) (by decide) (by decide) ?_
  refine j_istore_n C dX1_seenAs_12 (by decide) ?_
  refine j_iload_n C dX1_seenAs_13 rfl ?_
  refine j_bipush C dX1_seenAs_14 (v := nI 10) (by decide) ?_
  refine j_iremN C dX1_seenAs_16 (by omega) (by decide) (by decide) ?_
  refine j_istore C dX1_seenAs_17 (by decide) ?_
  refine j_iload_n C dX1_seenAs_19 rfl ?_
  refine j_tableIn C dX1_seenAs_20 (off := 40) (tgt := 60) (by decide) (by decide) (by decide) (by decide) ?_
  refine j_bipush C dX1_seenAs_60 (v := nI 100) (by decide) ?_
  refine j_iload_n C dX1_seenAs_62 rfl ?_
  refine j_imulN C dX1_seenAs_63 ?_
  refine j_bipush C dX1_seenAs_64 (v := nI 10) (by decide) ?_
  refine j_iload_n C dX1_seenAs_66 rfl ?_
  refine j_imulN C dX1_seenAs_67 ?_
  refine j_iaddN C dX1_seenAs_68 ?_
  exact j_ireturn C hret dX1_seenAs_69 ⟨congrArg (fun z => some (Value.int (nI z))) (by rw [cod_r hg hb, cod_g hg hb]; simp only [cod, sR, sG, sB]; omega), rfl⟩

set_option maxHeartbeats 4000000 in
set_option maxRecDepth 100000 in
theorem ct_seenAs_3 {l : Launch} {G : GG} {M : MM} {r g b : Nat} (hr : r ≤ 9) (hg : g ≤ 9) (hb : b ≤ 9) : Ct l G yX1_seenAs wsX1_seenAs 1 ([.int (nI 3), .int (nI (cod r g b))] : List Value) M (rI (nI (cod (sR 3 r g b) (sG 3 r g b) (sB 3 r g b))) M) := by
  have hlt := cod_lt hr hg hb
  refine Ct.of (cc := cX1_seenAs) (maxL := 5) (ret := (some .int)) (lv := [(0, .int (nI 3)), (1, .int (nI (cod r g b)))]) (by decide) rfl rfl (Nat.le_of_ble_eq_true rfl) ?_
  intro pg ev sg mm bl mt cd AZ C hret
  refine j_iload_n C dX1_seenAs_0 rfl ?_
  refine j_bipush C dX1_seenAs_1 (v := nI 100) (by decide) ?_
  refine j_idivN C dX1_seenAs_3 (by omega) (by decide) (by decide) ?_
  refine j_istore_n C dX1_seenAs_4 (by decide) ?_
  refine j_iload_n C dX1_seenAs_5 rfl ?_
  refine j_bipush C dX1_seenAs_6 (v := nI 10) (by decide) ?_
  refine j_idivN C dX1_seenAs_8 (by omega) (by decide) (by decide) ?_
  refine j_bipush C dX1_seenAs_9 (v := nI 10) (by decide) ?_
  refine j_iremN C dX1_seenAs_11 (by omega) (by decide) (by decide) ?_
  refine j_istore_n C dX1_seenAs_12 (by decide) ?_
  refine j_iload_n C dX1_seenAs_13 rfl ?_
  refine j_bipush C dX1_seenAs_14 (v := nI 10) (by decide) ?_
  refine j_iremN C dX1_seenAs_16 (by omega) (by decide) (by decide) ?_
  refine j_istore C dX1_seenAs_17 (by decide) ?_
  refine j_iload_n C dX1_seenAs_19 rfl ?_
  refine j_tableIn C dX1_seenAs_20 (off := 50) (tgt := 70) (by decide) (by decide) (by decide) (by decide) ?_
  refine j_bipush C dX1_seenAs_70 (v := nI 111) (by decide) ?_
  refine j_iload_n C dX1_seenAs_72 rfl ?_
  refine j_iload_n C dX1_seenAs_73 rfl ?_
  refine j_iaddN C dX1_seenAs_74 ?_
  refine j_iload C dX1_seenAs_75 rfl ?_
  refine j_iaddN C dX1_seenAs_77 ?_
  refine j_iconst C dX1_seenAs_78 (v := nI 3) (by decide) ?_
  refine j_idivN C dX1_seenAs_79 (by omega) (by decide) (by decide) ?_
  refine j_imulN C dX1_seenAs_80 ?_
  exact j_ireturn C hret dX1_seenAs_81 ⟨congrArg (fun z => some (Value.int (nI z))) (by rw [cod_r hg hb, cod_g hg hb, cod_b hb]; simp only [cod, sR, sG, sB]; omega), rfl⟩

theorem ct_seenAs {l : Launch} {G : GG} {M : MM} {kd r g b : Nat} (hk : kd ≤ 3) (hr : r ≤ 9) (hg : g ≤ 9) (hb : b ≤ 9) : Ct l G yX1_seenAs wsX1_seenAs 1 [.int (nI kd), .int (nI (cod r g b))] M (rI (nI (cod (sR kd r g b) (sG kd r g b) (sB kd r g b))) M) := by
  rcases (show kd = 0 ∨ kd = 1 ∨ kd = 2 ∨ kd = 3 by omega) with rfl | rfl | rfl | rfl
  · exact ct_seenAs_0 hr hg hb
  · exact ct_seenAs_1 hr hg hb
  · exact ct_seenAs_2 hr hg hb
  · exact ct_seenAs_3 hr hg hb

set_option maxHeartbeats 4000000 in
set_option maxRecDepth 100000 in
theorem ct_distance {l : Launch} {G : GG} {M : MM} {kd r g b r2 g2 b2 : Nat} (hk : kd ≤ 3) (hr : r ≤ 9) (hg : g ≤ 9) (hb : b ≤ 9) (hr2 : r2 ≤ 9) (hg2 : g2 ≤ 9) (hb2 : b2 ≤ 9) : Ct l G yX1_distance wsX1_distance 2 ([.int (nI kd), .int (nI (cod r g b)), .int (nI (cod r2 g2 b2))] : List Value) M (rI (nI (dist kd r g b r2 g2 b2)) M) := by
  have h1 := sR_le (kd := kd) hr hg hb
  have h2 := sG_le (kd := kd) hr hg hb
  have h3 := sB_le (kd := kd) hr hg hb
  have h4 := sR_le (kd := kd) hr2 hg2 hb2
  have h5 := sG_le (kd := kd) hr2 hg2 hb2
  have h6 := sB_le (kd := kd) hr2 hg2 hb2
  have hl1 := cod_lt h1 h2 h3
  have hl2 := cod_lt h4 h5 h6
  refine Ct.of (cc := cX1_distance) (maxL := 5) (ret := (some .int)) (lv := [(0, .int (nI kd)), (1, .int (nI (cod r g b))), (2, .int (nI (cod r2 g2 b2)))]) (by decide) rfl rfl (Nat.le_of_ble_eq_true rfl) ?_
  intro pg ev sg mm bl mt cd AZ C hret
  refine j_iload_n C dX1_distance_0 rfl ?_
  refine j_iload_n C dX1_distance_1 rfl ?_
  refine j_callS C (ct_seenAs hk hr hg hb) dX1_distance_2 gX1_distance_X1_seenAs rfl ks_X1_seenAs rfl rfl (Nat.le_of_ble_eq_true rfl) ⟨by decide, by decide⟩ ⟨Nat.zero_le _, Nat.zero_le _⟩ (k_I ?_)
  refine j_istore_n C dX1_distance_5 (by decide) ?_
  refine j_iload_n C dX1_distance_6 rfl ?_
  refine j_iload_n C dX1_distance_7 rfl ?_
  refine j_callS C (ct_seenAs hk hr2 hg2 hb2) dX1_distance_8 gX1_distance_X1_seenAs rfl ks_X1_seenAs rfl rfl (Nat.le_of_ble_eq_true rfl) ⟨by decide, by decide⟩ ⟨Nat.zero_le _, Nat.zero_le _⟩ (k_I ?_)
  refine j_istore C dX1_distance_11 (by decide) ?_
  refine j_iload_n C dX1_distance_13 rfl ?_
  refine j_bipush C dX1_distance_14 (v := nI 100) (by decide) ?_
  refine j_idivN C dX1_distance_16 (by omega) (by decide) (by decide) ?_
  refine j_top C (nI (sR kd r g b)) (congrArg nI (cod_r h2 h3)) ?_
  refine j_iload C dX1_distance_17 rfl ?_
  refine j_bipush C dX1_distance_19 (v := nI 100) (by decide) ?_
  refine j_idivN C dX1_distance_21 (by omega) (by decide) (by decide) ?_
  refine j_top C (nI (sR kd r2 g2 b2)) (congrArg nI (cod_r h5 h6)) ?_
  refine j_isub C dX1_distance_22 ?_
  refine j_mabs C dX1_distance_23 ml_X1_distance_16 ms_X1_distance_abs mi_X1_distance mc_X1_distance_abs (by decide) (Nat.le_of_ble_eq_true rfl) ⟨Nat.zero_le _, Nat.zero_le _⟩ ?_
  refine j_top C (_) (mabs_nI (by omega) (by omega)) ?_
  refine j_iload_n C dX1_distance_26 rfl ?_
  refine j_bipush C dX1_distance_27 (v := nI 10) (by decide) ?_
  refine j_idivN C dX1_distance_29 (by omega) (by decide) (by decide) ?_
  refine j_bipush C dX1_distance_30 (v := nI 10) (by decide) ?_
  refine j_iremN C dX1_distance_32 (by omega) (by decide) (by decide) ?_
  refine j_top C (nI (sG kd r g b)) (congrArg nI (cod_g h2 h3)) ?_
  refine j_iload C dX1_distance_33 rfl ?_
  refine j_bipush C dX1_distance_35 (v := nI 10) (by decide) ?_
  refine j_idivN C dX1_distance_37 (by omega) (by decide) (by decide) ?_
  refine j_bipush C dX1_distance_38 (v := nI 10) (by decide) ?_
  refine j_iremN C dX1_distance_40 (by omega) (by decide) (by decide) ?_
  refine j_top C (nI (sG kd r2 g2 b2)) (congrArg nI (cod_g h5 h6)) ?_
  refine j_isub C dX1_distance_41 ?_
  refine j_mabs C dX1_distance_42 ml_X1_distance_16 ms_X1_distance_abs mi_X1_distance mc_X1_distance_abs (by decide) (Nat.le_of_ble_eq_true rfl) ⟨Nat.zero_le _, Nat.zero_le _⟩ ?_
  refine j_top C (_) (mabs_nI (by omega) (by omega)) ?_
  refine j_iaddN C dX1_distance_45 ?_
  refine j_iload_n C dX1_distance_46 rfl ?_
  refine j_bipush C dX1_distance_47 (v := nI 10) (by decide) ?_
  refine j_iremN C dX1_distance_49 (by omega) (by decide) (by decide) ?_
  refine j_top C (nI (sB kd r g b)) (congrArg nI (cod_b h3)) ?_
  refine j_iload C dX1_distance_50 rfl ?_
  refine j_bipush C dX1_distance_52 (v := nI 10) (by decide) ?_
  refine j_iremN C dX1_distance_54 (by omega) (by decide) (by decide) ?_
  refine j_top C (nI (sB kd r2 g2 b2)) (congrArg nI (cod_b h6)) ?_
  refine j_isub C dX1_distance_55 ?_
  refine j_mabs C dX1_distance_56 ml_X1_distance_16 ms_X1_distance_abs mi_X1_distance mc_X1_distance_abs (by decide) (Nat.le_of_ble_eq_true rfl) ⟨Nat.zero_le _, Nat.zero_le _⟩ ?_
  refine j_top C (_) (mabs_nI (by omega) (by omega)) ?_
  refine j_iaddN C dX1_distance_59 ?_
  exact j_ireturn C hret dX1_distance_60 ⟨rfl, rfl⟩

set_option maxHeartbeats 4000000 in
set_option maxRecDepth 100000 in
theorem ct_change {l : Launch} {G : GG} {M : MM} {r g b r2 g2 b2 : Nat} (hr : r ≤ 9) (hg : g ≤ 9) (hb : b ≤ 9) (hr2 : r2 ≤ 9) (hg2 : g2 ≤ 9) (hb2 : b2 ≤ 9) : Ct l G yX1_change wsX1_change 3 ([.int (nI (cod r g b)), .int (nI (cod r2 g2 b2))] : List Value) M (rI (nI (dist 0 r g b r2 g2 b2)) M) := by
  refine Ct.of (cc := cX1_change) (maxL := 2) (ret := (some .int)) (lv := [(0, .int (nI (cod r g b))), (1, .int (nI (cod r2 g2 b2)))]) (by decide) rfl rfl (Nat.le_of_ble_eq_true rfl) ?_
  intro pg ev sg mm bl mt cd AZ C hret
  refine j_iconst C dX1_change_0 (v := nI 0) (by decide) ?_
  refine j_iload_n C dX1_change_1 rfl ?_
  refine j_iload_n C dX1_change_2 rfl ?_
  refine j_callS C (ct_distance (by decide) hr hg hb hr2 hg2 hb2) dX1_change_3 gX1_change_X1_distance rfl ks_X1_distance rfl rfl (Nat.le_of_ble_eq_true rfl) ⟨by decide, by decide⟩ ⟨Nat.zero_le _, Nat.zero_le _⟩ (k_I ?_)
  exact j_ireturn C hret dX1_change_6 ⟨rfl, rfl⟩
