
set_option maxHeartbeats 4000000 in
set_option maxRecDepth 100000 in
theorem cf_mix {l : Launch} {G : GG} {M : MM} {i k v : Int32} (hbad : (inI i (nI 0) (nI 7) && (inI k (nI 0) (nI 2) && inI v (nI 0) (nI 9))) = false) : Ct l G yX6_mix wsX6_mix 4 ([.ref (G.2.2 84), .int (i), .int (k), .int (v)] : List Value) M (rI (nI 0) (setV M 84 5 (nI (thr (inI i (nI 0) (nI 7)) ((inI k (nI 0) (nI 2) && inI v (nI 0) (nI 9))))))) := by
  refine Ct.of (cc := cX6_mix) (maxL := 4) (ret := (some .int)) (lv := [(0, .ref (G.2.2 84)), (1, .int (i)), (2, .int (k)), (3, .int (v))]) (by decide) rfl rfl (Nat.le_of_ble_eq_true rfl) ?_
  intro pg ev sg mm bl mt cd AZ C hret
  refine j_aload_n C dX6_mix_0 rfl ?_
  refine j_iload_n C dX6_mix_1 rfl ?_
  refine j_callS C cm_isPot dX6_mix_2 gX6_mix_X6_isPot rfl ks_X6_isPot rfl rfl (Nat.le_of_ble_eq_true rfl) ⟨by decide, by decide⟩ ⟨Nat.zero_le _, Nat.zero_le _⟩ (k_I ?_)
  refine j_iload_n C dX6_mix_5 rfl ?_
  refine j_iconst C dX6_mix_6 (v := nI 0) (by decide) ?_
  refine j_iconst C dX6_mix_7 (v := nI 2) (by decide) ?_
  refine j_callS C cm_in dX6_mix_8 gX6_mix_X6_in rfl ks_X6_in rfl rfl (Nat.le_of_ble_eq_true rfl) ⟨by decide, by decide⟩ ⟨Nat.zero_le _, Nat.zero_le _⟩ (k_I ?_)
  refine j_if_eqB C dX6_mix_11 (tgt := 28) (by decide) (fun cq11 => ?_) (fun cq11 => ?_)
  · refine j_iconst C dX6_mix_28 (v := nI 0) (by decide) ?_
    refine j_top C (bI (inI k (nI 0) (nI 2) && inI v (nI 0) (nI 9))) (by first | (rw [cq11, cq21]; rfl) | (rw [cq11]; rfl)) ?_
    refine j_callV C cm_goes dX6_mix_29 rfl (by decide) (T := TX6) rfl gX6_mix_X6_goes rfl kd_X6_goes rfl rfl (Nat.le_of_ble_eq_true rfl) ⟨by decide, by decide⟩ ⟨Nat.zero_le _, Nat.zero_le _⟩ (k_I ?_)
    refine j_if_eqB C dX6_mix_32 (tgt := 48) (by decide) (fun cq32 => ?_) (fun cq32 => absurd cq32 (by rw [hbad]; decide))
    refine j_iconst C dX6_mix_48 (v := nI 0) (by decide) ?_
    exact j_ireturn C hret dX6_mix_49 ⟨rfl, rfl⟩
  · refine j_iload_n C dX6_mix_14 rfl ?_
    refine j_iconst C dX6_mix_15 (v := nI 0) (by decide) ?_
    refine j_bipush C dX6_mix_16 (v := nI 9) (by decide) ?_
    refine j_callS C cm_in dX6_mix_18 gX6_mix_X6_in rfl ks_X6_in rfl rfl (Nat.le_of_ble_eq_true rfl) ⟨by decide, by decide⟩ ⟨Nat.zero_le _, Nat.zero_le _⟩ (k_I ?_)
    refine j_if_eqB C dX6_mix_21 (tgt := 28) (by decide) (fun cq21 => ?_) (fun cq21 => ?_)
    · refine j_iconst C dX6_mix_28 (v := nI 0) (by decide) ?_
      refine j_top C (bI (inI k (nI 0) (nI 2) && inI v (nI 0) (nI 9))) (by first | (rw [cq11, cq21]; rfl) | (rw [cq11]; rfl)) ?_
      refine j_callV C cm_goes dX6_mix_29 rfl (by decide) (T := TX6) rfl gX6_mix_X6_goes rfl kd_X6_goes rfl rfl (Nat.le_of_ble_eq_true rfl) ⟨by decide, by decide⟩ ⟨Nat.zero_le _, Nat.zero_le _⟩ (k_I ?_)
      refine j_if_eqB C dX6_mix_32 (tgt := 48) (by decide) (fun cq32 => ?_) (fun cq32 => absurd cq32 (by rw [hbad]; decide))
      refine j_iconst C dX6_mix_48 (v := nI 0) (by decide) ?_
      exact j_ireturn C hret dX6_mix_49 ⟨rfl, rfl⟩
    · refine j_iconst C dX6_mix_24 (v := nI 1) (by decide) ?_
      refine j_top C (bI (inI k (nI 0) (nI 2) && inI v (nI 0) (nI 9))) (by first | (rw [cq11, cq21]; rfl)) ?_
      refine j_goto C dX6_mix_25 (tgt := 29) (by decide) ?_
      refine j_callV C cm_goes dX6_mix_29 rfl (by decide) (T := TX6) rfl gX6_mix_X6_goes rfl kd_X6_goes rfl rfl (Nat.le_of_ble_eq_true rfl) ⟨by decide, by decide⟩ ⟨Nat.zero_le _, Nat.zero_le _⟩ (k_I ?_)
      refine j_if_eqB C dX6_mix_32 (tgt := 48) (by decide) (fun cq32 => ?_) (fun cq32 => absurd cq32 (by rw [hbad]; decide))
      refine j_iconst C dX6_mix_48 (v := nI 0) (by decide) ?_
      exact j_ireturn C hret dX6_mix_49 ⟨rfl, rfl⟩

set_option maxHeartbeats 4000000 in
set_option maxRecDepth 100000 in
theorem cf_painter {l : Launch} {G : GG} {M : MM} {p k v : Int32} (hbad : (inI p (nI 0) (nI 3) && (inI k (nI 0) (nI 1) && inI v (nI 0) (if k = 0 then nI 3 else nI 27))) = false) : Ct l G yX6_painter wsX6_painter 4 ([.ref (G.2.2 84), .int (p), .int (k), .int (v)] : List Value) M (rI (nI 0) (setV M 84 5 (nI (thr (inI p (nI 0) (nI 3)) ((inI k (nI 0) (nI 1) && inI v (nI 0) (if k = 0 then nI 3 else nI 27))))))) := by
  refine Ct.of (cc := cX6_painter) (maxL := 4) (ret := (some .int)) (lv := [(0, .ref (G.2.2 84)), (1, .int (p)), (2, .int (k)), (3, .int (v))]) (by decide) rfl rfl (Nat.le_of_ble_eq_true rfl) ?_
  intro pg ev sg mm bl mt cd AZ C hret
  refine j_aload_n C dX6_painter_0 rfl ?_
  refine j_iload_n C dX6_painter_1 rfl ?_
  refine j_callS C cm_isPainter dX6_painter_2 gX6_painter_X6_isPainter rfl ks_X6_isPainter rfl rfl (Nat.le_of_ble_eq_true rfl) ⟨by decide, by decide⟩ ⟨Nat.zero_le _, Nat.zero_le _⟩ (k_I ?_)
  refine j_iload_n C dX6_painter_5 rfl ?_
  refine j_iconst C dX6_painter_6 (v := nI 0) (by decide) ?_
  refine j_iconst C dX6_painter_7 (v := nI 1) (by decide) ?_
  refine j_callS C cm_in dX6_painter_8 gX6_painter_X6_in rfl ks_X6_in rfl rfl (Nat.le_of_ble_eq_true rfl) ⟨by decide, by decide⟩ ⟨Nat.zero_le _, Nat.zero_le _⟩ (k_I ?_)
  refine j_if_eqB C dX6_painter_11 (tgt := 36) (by decide) (fun cq11 => ?_) (fun cq11 => ?_)
  · refine j_iconst C dX6_painter_36 (v := nI 0) (by decide) ?_
    refine j_top C (bI (inI k (nI 0) (nI 1) && inI v (nI 0) (if k = 0 then nI 3 else nI 27))) (by first | (rw [cq11, q9, cq29]; rfl) | (rw [cq11]; rfl)) ?_
    refine j_callV C cm_goes dX6_painter_37 rfl (by decide) (T := TX6) rfl gX6_painter_X6_goes rfl kd_X6_goes rfl rfl (Nat.le_of_ble_eq_true rfl) ⟨by decide, by decide⟩ ⟨Nat.zero_le _, Nat.zero_le _⟩ (k_I ?_)
    refine j_if_eqB C dX6_painter_40 (tgt := 57) (by decide) (fun cq40 => ?_) (fun cq40 => absurd cq40 (by rw [hbad]; decide))
    refine j_iconst C dX6_painter_57 (v := nI 0) (by decide) ?_
    exact j_ireturn C hret dX6_painter_58 ⟨rfl, rfl⟩
  · refine j_iload_n C dX6_painter_14 rfl ?_
    refine j_iconst C dX6_painter_15 (v := nI 0) (by decide) ?_
    refine j_iload_n C dX6_painter_16 rfl ?_
    refine j_if_ne C dX6_painter_17 (tgt := 24) (by decide) (fun cq17 => ?_) (fun cq17 => ?_)
    · have q9 : (if k = 0 then nI 3 else nI 27) = nI 27 := if_neg cq17
      refine j_bipush C dX6_painter_24 (v := nI 27) (by decide) ?_
      refine j_callS C cm_in dX6_painter_26 gX6_painter_X6_in rfl ks_X6_in rfl rfl (Nat.le_of_ble_eq_true rfl) ⟨by decide, by decide⟩ ⟨Nat.zero_le _, Nat.zero_le _⟩ (k_I ?_)
      refine j_if_eqB C dX6_painter_29 (tgt := 36) (by decide) (fun cq29 => ?_) (fun cq29 => ?_)
      · refine j_iconst C dX6_painter_36 (v := nI 0) (by decide) ?_
        refine j_top C (bI (inI k (nI 0) (nI 1) && inI v (nI 0) (if k = 0 then nI 3 else nI 27))) (by first | (rw [cq11, q9, cq29]; rfl) | (rw [cq11]; rfl)) ?_
        refine j_callV C cm_goes dX6_painter_37 rfl (by decide) (T := TX6) rfl gX6_painter_X6_goes rfl kd_X6_goes rfl rfl (Nat.le_of_ble_eq_true rfl) ⟨by decide, by decide⟩ ⟨Nat.zero_le _, Nat.zero_le _⟩ (k_I ?_)
        refine j_if_eqB C dX6_painter_40 (tgt := 57) (by decide) (fun cq40 => ?_) (fun cq40 => absurd cq40 (by rw [hbad]; decide))
        refine j_iconst C dX6_painter_57 (v := nI 0) (by decide) ?_
        exact j_ireturn C hret dX6_painter_58 ⟨rfl, rfl⟩
      · refine j_iconst C dX6_painter_32 (v := nI 1) (by decide) ?_
        refine j_top C (bI (inI k (nI 0) (nI 1) && inI v (nI 0) (if k = 0 then nI 3 else nI 27))) (by first | (rw [cq11, q9, cq29]; rfl)) ?_
        refine j_goto C dX6_painter_33 (tgt := 37) (by decide) ?_
        refine j_callV C cm_goes dX6_painter_37 rfl (by decide) (T := TX6) rfl gX6_painter_X6_goes rfl kd_X6_goes rfl rfl (Nat.le_of_ble_eq_true rfl) ⟨by decide, by decide⟩ ⟨Nat.zero_le _, Nat.zero_le _⟩ (k_I ?_)
        refine j_if_eqB C dX6_painter_40 (tgt := 57) (by decide) (fun cq40 => ?_) (fun cq40 => absurd cq40 (by rw [hbad]; decide))
        refine j_iconst C dX6_painter_57 (v := nI 0) (by decide) ?_
        exact j_ireturn C hret dX6_painter_58 ⟨rfl, rfl⟩
    · have q9 : (if k = 0 then nI 3 else nI 27) = nI 3 := if_pos (by first | exact cq17 | exact Decidable.not_not.mp cq17)
      refine j_iconst C dX6_painter_20 (v := nI 3) (by decide) ?_
      refine j_goto C dX6_painter_21 (tgt := 26) (by decide) ?_
      refine j_callS C cm_in dX6_painter_26 gX6_painter_X6_in rfl ks_X6_in rfl rfl (Nat.le_of_ble_eq_true rfl) ⟨by decide, by decide⟩ ⟨Nat.zero_le _, Nat.zero_le _⟩ (k_I ?_)
      refine j_if_eqB C dX6_painter_29 (tgt := 36) (by decide) (fun cq29 => ?_) (fun cq29 => ?_)
      · refine j_iconst C dX6_painter_36 (v := nI 0) (by decide) ?_
        refine j_top C (bI (inI k (nI 0) (nI 1) && inI v (nI 0) (if k = 0 then nI 3 else nI 27))) (by first | (rw [cq11, q9, cq29]; rfl) | (rw [cq11]; rfl)) ?_
        refine j_callV C cm_goes dX6_painter_37 rfl (by decide) (T := TX6) rfl gX6_painter_X6_goes rfl kd_X6_goes rfl rfl (Nat.le_of_ble_eq_true rfl) ⟨by decide, by decide⟩ ⟨Nat.zero_le _, Nat.zero_le _⟩ (k_I ?_)
        refine j_if_eqB C dX6_painter_40 (tgt := 57) (by decide) (fun cq40 => ?_) (fun cq40 => absurd cq40 (by rw [hbad]; decide))
        refine j_iconst C dX6_painter_57 (v := nI 0) (by decide) ?_
        exact j_ireturn C hret dX6_painter_58 ⟨rfl, rfl⟩
      · refine j_iconst C dX6_painter_32 (v := nI 1) (by decide) ?_
        refine j_top C (bI (inI k (nI 0) (nI 1) && inI v (nI 0) (if k = 0 then nI 3 else nI 27))) (by first | (rw [cq11, q9, cq29]; rfl)) ?_
        refine j_goto C dX6_painter_33 (tgt := 37) (by decide) ?_
        refine j_callV C cm_goes dX6_painter_37 rfl (by decide) (T := TX6) rfl gX6_painter_X6_goes rfl kd_X6_goes rfl rfl (Nat.le_of_ble_eq_true rfl) ⟨by decide, by decide⟩ ⟨Nat.zero_le _, Nat.zero_le _⟩ (k_I ?_)
        refine j_if_eqB C dX6_painter_40 (tgt := 57) (by decide) (fun cq40 => ?_) (fun cq40 => absurd cq40 (by rw [hbad]; decide))
        refine j_iconst C dX6_painter_57 (v := nI 0) (by decide) ?_
        exact j_ireturn C hret dX6_painter_58 ⟨rfl, rfl⟩

set_option maxHeartbeats 4000000 in
set_option maxRecDepth 100000 in
theorem cf_borrow {l : Launch} {G : GG} {M : MM} {p q : Int32} (hbad : ((inI p (nI 0) (nI 3) && inI q (nI 0) (nI 3)) && true) = false) : Ct l G yX6_borrow wsX6_borrow 4 ([.ref (G.2.2 84), .int (p), .int (q)] : List Value) M (rI (nI 0) (setV M 84 5 (nI (thr ((inI p (nI 0) (nI 3) && inI q (nI 0) (nI 3))) (true))))) := by
  refine Ct.of (cc := cX6_borrow) (maxL := 3) (ret := (some .int)) (lv := [(0, .ref (G.2.2 84)), (1, .int (p)), (2, .int (q))]) (by decide) rfl rfl (Nat.le_of_ble_eq_true rfl) ?_
  intro pg ev sg mm bl mt cd AZ C hret
  refine j_aload_n C dX6_borrow_0 rfl ?_
  refine j_iload_n C dX6_borrow_1 rfl ?_
  refine j_callS C cm_isPainter dX6_borrow_2 gX6_borrow_X6_isPainter rfl ks_X6_isPainter rfl rfl (Nat.le_of_ble_eq_true rfl) ⟨by decide, by decide⟩ ⟨Nat.zero_le _, Nat.zero_le _⟩ (k_I ?_)
  refine j_if_eqB C dX6_borrow_5 (tgt := 19) (by decide) (fun cq5 => ?_) (fun cq5 => ?_)
  · refine j_iconst C dX6_borrow_19 (v := nI 0) (by decide) ?_
    refine j_top C (bI (inI p (nI 0) (nI 3) && inI q (nI 0) (nI 3))) (by first | (rw [cq5, cq12]; rfl) | (rw [cq5]; rfl)) ?_
    refine j_iconst C dX6_borrow_20 (v := nI 1) (by decide) ?_
    refine j_top C (bI true) rfl ?_
    refine j_callV C cm_goes dX6_borrow_21 rfl (by decide) (T := TX6) rfl gX6_borrow_X6_goes rfl kd_X6_goes rfl rfl (Nat.le_of_ble_eq_true rfl) ⟨by decide, by decide⟩ ⟨Nat.zero_le _, Nat.zero_le _⟩ (k_I ?_)
    refine j_if_eqB C dX6_borrow_24 (tgt := 50) (by decide) (fun cq24 => ?_) (fun cq24 => absurd cq24 (by rw [hbad]; decide))
    refine j_iconst C dX6_borrow_50 (v := nI 0) (by decide) ?_
    exact j_ireturn C hret dX6_borrow_51 ⟨rfl, rfl⟩
  · refine j_iload_n C dX6_borrow_8 rfl ?_
    refine j_callS C cm_isPainter dX6_borrow_9 gX6_borrow_X6_isPainter rfl ks_X6_isPainter rfl rfl (Nat.le_of_ble_eq_true rfl) ⟨by decide, by decide⟩ ⟨Nat.zero_le _, Nat.zero_le _⟩ (k_I ?_)
    refine j_if_eqB C dX6_borrow_12 (tgt := 19) (by decide) (fun cq12 => ?_) (fun cq12 => ?_)
    · refine j_iconst C dX6_borrow_19 (v := nI 0) (by decide) ?_
      refine j_top C (bI (inI p (nI 0) (nI 3) && inI q (nI 0) (nI 3))) (by first | (rw [cq5, cq12]; rfl) | (rw [cq5]; rfl)) ?_
      refine j_iconst C dX6_borrow_20 (v := nI 1) (by decide) ?_
      refine j_top C (bI true) rfl ?_
      refine j_callV C cm_goes dX6_borrow_21 rfl (by decide) (T := TX6) rfl gX6_borrow_X6_goes rfl kd_X6_goes rfl rfl (Nat.le_of_ble_eq_true rfl) ⟨by decide, by decide⟩ ⟨Nat.zero_le _, Nat.zero_le _⟩ (k_I ?_)
      refine j_if_eqB C dX6_borrow_24 (tgt := 50) (by decide) (fun cq24 => ?_) (fun cq24 => absurd cq24 (by rw [hbad]; decide))
      refine j_iconst C dX6_borrow_50 (v := nI 0) (by decide) ?_
      exact j_ireturn C hret dX6_borrow_51 ⟨rfl, rfl⟩
    · refine j_iconst C dX6_borrow_15 (v := nI 1) (by decide) ?_
      refine j_top C (bI (inI p (nI 0) (nI 3) && inI q (nI 0) (nI 3))) (by first | (rw [cq5, cq12]; rfl)) ?_
      refine j_goto C dX6_borrow_16 (tgt := 20) (by decide) ?_
      refine j_iconst C dX6_borrow_20 (v := nI 1) (by decide) ?_
      refine j_top C (bI true) rfl ?_
      refine j_callV C cm_goes dX6_borrow_21 rfl (by decide) (T := TX6) rfl gX6_borrow_X6_goes rfl kd_X6_goes rfl rfl (Nat.le_of_ble_eq_true rfl) ⟨by decide, by decide⟩ ⟨Nat.zero_le _, Nat.zero_le _⟩ (k_I ?_)
      refine j_if_eqB C dX6_borrow_24 (tgt := 50) (by decide) (fun cq24 => ?_) (fun cq24 => absurd cq24 (by rw [hbad]; decide))
      refine j_iconst C dX6_borrow_50 (v := nI 0) (by decide) ?_
      exact j_ireturn C hret dX6_borrow_51 ⟨rfl, rfl⟩

set_option maxHeartbeats 4000000 in
set_option maxRecDepth 100000 in
theorem cf_label {l : Launch} {G : GG} {M : MM} {i v : Int32} (hbad : (inI i (nI 0) (nI 7) && inI v (-1) (nI 7)) = false) : Ct l G yX6_label wsX6_label 4 ([.ref (G.2.2 84), .int (i), .int (v)] : List Value) M (rI (nI 0) (setV M 84 5 (nI (thr (inI i (nI 0) (nI 7)) (inI v (-1) (nI 7)))))) := by
  refine Ct.of (cc := cX6_label) (maxL := 3) (ret := (some .int)) (lv := [(0, .ref (G.2.2 84)), (1, .int (i)), (2, .int (v))]) (by decide) rfl rfl (Nat.le_of_ble_eq_true rfl) ?_
  intro pg ev sg mm bl mt cd AZ C hret
  refine j_aload_n C dX6_label_0 rfl ?_
  refine j_iload_n C dX6_label_1 rfl ?_
  refine j_callS C cm_isPot dX6_label_2 gX6_label_X6_isPot rfl ks_X6_isPot rfl rfl (Nat.le_of_ble_eq_true rfl) ⟨by decide, by decide⟩ ⟨Nat.zero_le _, Nat.zero_le _⟩ (k_I ?_)
  refine j_iload_n C dX6_label_5 rfl ?_
  refine j_iconst C dX6_label_6 (v := -1) (by decide) ?_
  refine j_bipush C dX6_label_7 (v := nI 7) (by decide) ?_
  refine j_callS C cm_in dX6_label_9 gX6_label_X6_in rfl ks_X6_in rfl rfl (Nat.le_of_ble_eq_true rfl) ⟨by decide, by decide⟩ ⟨Nat.zero_le _, Nat.zero_le _⟩ (k_I ?_)
  refine j_callV C cm_goes dX6_label_12 rfl (by decide) (T := TX6) rfl gX6_label_X6_goes rfl kd_X6_goes rfl rfl (Nat.le_of_ble_eq_true rfl) ⟨by decide, by decide⟩ ⟨Nat.zero_le _, Nat.zero_le _⟩ (k_I ?_)
  refine j_if_eqB C dX6_label_15 (tgt := 31) (by decide) (fun cq15 => ?_) (fun cq15 => absurd cq15 (by rw [hbad]; decide))
  refine j_iconst C dX6_label_31 (v := nI 0) (by decide) ?_
  exact j_ireturn C hret dX6_label_32 ⟨rfl, rfl⟩

set_option maxHeartbeats 4000000 in
set_option maxRecDepth 100000 in
theorem cf_labelAll {l : Launch} {G : GG} {M : MM} {p : Int32} (hbad : (inI p (nI 0) (nI 3) && true) = false) : Ct l G yX6_labelAll wsX6_labelAll 6 ([.ref (G.2.2 84), .int (p)] : List Value) M (rI (nI 0) (setV M 84 5 (nI (thr (inI p (nI 0) (nI 3)) (true))))) := by
  refine Ct.of (cc := cX6_labelAll) (maxL := 5) (ret := (some .int)) (lv := [(0, .ref (G.2.2 84)), (1, .int (p))]) (by decide) rfl rfl (Nat.le_of_ble_eq_true rfl) ?_
  intro pg ev sg mm bl mt cd AZ C hret
  refine j_aload_n C dX6_labelAll_0 rfl ?_
  refine j_iload_n C dX6_labelAll_1 rfl ?_
  refine j_callS C cm_isPainter dX6_labelAll_2 gX6_labelAll_X6_isPainter rfl ks_X6_isPainter rfl rfl (Nat.le_of_ble_eq_true rfl) ⟨by decide, by decide⟩ ⟨Nat.zero_le _, Nat.zero_le _⟩ (k_I ?_)
  refine j_iconst C dX6_labelAll_5 (v := nI 1) (by decide) ?_
  refine j_top C (bI true) rfl ?_
  refine j_callV C cm_goes dX6_labelAll_6 rfl (by decide) (T := TX6) rfl gX6_labelAll_X6_goes rfl kd_X6_goes rfl rfl (Nat.le_of_ble_eq_true rfl) ⟨by decide, by decide⟩ ⟨Nat.zero_le _, Nat.zero_le _⟩ (k_I ?_)
  refine j_if_neB C dX6_labelAll_9 (tgt := 14) (by decide) (fun cq9 => absurd cq9 (by rw [hbad]; decide)) (fun cq9 => ?_)
  refine j_iconst C dX6_labelAll_12 (v := nI 0) (by decide) ?_
  exact j_ireturn C hret dX6_labelAll_13 ⟨rfl, rfl⟩

set_option maxHeartbeats 4000000 in
set_option maxRecDepth 100000 in
theorem cf_hang {l : Launch} {G : GG} {M : MM} {i j : Int32} (hbad : ((inI i (nI 0) (nI 7) && inI j (nI 0) (nI 7)) && (!decide (i = j))) = false) : Ct l G yX6_hang wsX6_hang 4 ([.ref (G.2.2 84), .int (i), .int (j)] : List Value) M (rI (nI 0) (setV M 84 5 (nI (thr ((inI i (nI 0) (nI 7) && inI j (nI 0) (nI 7))) ((!decide (i = j))))))) := by
  refine Ct.of (cc := cX6_hang) (maxL := 3) (ret := (some .int)) (lv := [(0, .ref (G.2.2 84)), (1, .int (i)), (2, .int (j))]) (by decide) rfl rfl (Nat.le_of_ble_eq_true rfl) ?_
  intro pg ev sg mm bl mt cd AZ C hret
  refine j_aload_n C dX6_hang_0 rfl ?_
  refine j_iload_n C dX6_hang_1 rfl ?_
  refine j_callS C cm_isPot dX6_hang_2 gX6_hang_X6_isPot rfl ks_X6_isPot rfl rfl (Nat.le_of_ble_eq_true rfl) ⟨by decide, by decide⟩ ⟨Nat.zero_le _, Nat.zero_le _⟩ (k_I ?_)
  refine j_if_eqB C dX6_hang_5 (tgt := 19) (by decide) (fun cq5 => ?_) (fun cq5 => ?_)
  · refine j_iconst C dX6_hang_19 (v := nI 0) (by decide) ?_
    refine j_top C (bI (inI i (nI 0) (nI 7) && inI j (nI 0) (nI 7))) (by first | (rw [cq5, cq12]; rfl) | (rw [cq5]; rfl)) ?_
    refine j_iload_n C dX6_hang_20 rfl ?_
    refine j_iload_n C dX6_hang_21 rfl ?_
    refine j_icmp_eq C dX6_hang_22 (tgt := 29) (by decide) (fun cq22 => ?_) (fun cq22 => ?_)
    · refine j_iconst C dX6_hang_29 (v := nI 0) (by decide) ?_
      refine j_top C (bI (!decide (i = j))) (by rw [decide_eq_true cq22]; rfl) ?_
      refine j_callV C cm_goes dX6_hang_30 rfl (by decide) (T := TX6) rfl gX6_hang_X6_goes rfl kd_X6_goes rfl rfl (Nat.le_of_ble_eq_true rfl) ⟨by decide, by decide⟩ ⟨Nat.zero_le _, Nat.zero_le _⟩ (k_I ?_)
      refine j_if_neB C dX6_hang_33 (tgt := 38) (by decide) (fun cq33 => absurd cq33 (by rw [hbad]; decide)) (fun cq33 => ?_)
      refine j_iconst C dX6_hang_36 (v := nI 0) (by decide) ?_
      exact j_ireturn C hret dX6_hang_37 ⟨rfl, rfl⟩
    · refine j_iconst C dX6_hang_25 (v := nI 1) (by decide) ?_
      refine j_top C (bI (!decide (i = j))) (by rw [decide_eq_false cq22]; rfl) ?_
      refine j_goto C dX6_hang_26 (tgt := 30) (by decide) ?_
      refine j_callV C cm_goes dX6_hang_30 rfl (by decide) (T := TX6) rfl gX6_hang_X6_goes rfl kd_X6_goes rfl rfl (Nat.le_of_ble_eq_true rfl) ⟨by decide, by decide⟩ ⟨Nat.zero_le _, Nat.zero_le _⟩ (k_I ?_)
      refine j_if_neB C dX6_hang_33 (tgt := 38) (by decide) (fun cq33 => absurd cq33 (by rw [hbad]; decide)) (fun cq33 => ?_)
      refine j_iconst C dX6_hang_36 (v := nI 0) (by decide) ?_
      exact j_ireturn C hret dX6_hang_37 ⟨rfl, rfl⟩
  · refine j_iload_n C dX6_hang_8 rfl ?_
    refine j_callS C cm_isPot dX6_hang_9 gX6_hang_X6_isPot rfl ks_X6_isPot rfl rfl (Nat.le_of_ble_eq_true rfl) ⟨by decide, by decide⟩ ⟨Nat.zero_le _, Nat.zero_le _⟩ (k_I ?_)
    refine j_if_eqB C dX6_hang_12 (tgt := 19) (by decide) (fun cq12 => ?_) (fun cq12 => ?_)
    · refine j_iconst C dX6_hang_19 (v := nI 0) (by decide) ?_
      refine j_top C (bI (inI i (nI 0) (nI 7) && inI j (nI 0) (nI 7))) (by first | (rw [cq5, cq12]; rfl) | (rw [cq5]; rfl)) ?_
      refine j_iload_n C dX6_hang_20 rfl ?_
      refine j_iload_n C dX6_hang_21 rfl ?_
      refine j_icmp_eq C dX6_hang_22 (tgt := 29) (by decide) (fun cq22 => ?_) (fun cq22 => ?_)
      · refine j_iconst C dX6_hang_29 (v := nI 0) (by decide) ?_
        refine j_top C (bI (!decide (i = j))) (by rw [decide_eq_true cq22]; rfl) ?_
        refine j_callV C cm_goes dX6_hang_30 rfl (by decide) (T := TX6) rfl gX6_hang_X6_goes rfl kd_X6_goes rfl rfl (Nat.le_of_ble_eq_true rfl) ⟨by decide, by decide⟩ ⟨Nat.zero_le _, Nat.zero_le _⟩ (k_I ?_)
        refine j_if_neB C dX6_hang_33 (tgt := 38) (by decide) (fun cq33 => absurd cq33 (by rw [hbad]; decide)) (fun cq33 => ?_)
        refine j_iconst C dX6_hang_36 (v := nI 0) (by decide) ?_
        exact j_ireturn C hret dX6_hang_37 ⟨rfl, rfl⟩
      · refine j_iconst C dX6_hang_25 (v := nI 1) (by decide) ?_
        refine j_top C (bI (!decide (i = j))) (by rw [decide_eq_false cq22]; rfl) ?_
        refine j_goto C dX6_hang_26 (tgt := 30) (by decide) ?_
        refine j_callV C cm_goes dX6_hang_30 rfl (by decide) (T := TX6) rfl gX6_hang_X6_goes rfl kd_X6_goes rfl rfl (Nat.le_of_ble_eq_true rfl) ⟨by decide, by decide⟩ ⟨Nat.zero_le _, Nat.zero_le _⟩ (k_I ?_)
        refine j_if_neB C dX6_hang_33 (tgt := 38) (by decide) (fun cq33 => absurd cq33 (by rw [hbad]; decide)) (fun cq33 => ?_)
        refine j_iconst C dX6_hang_36 (v := nI 0) (by decide) ?_
        exact j_ireturn C hret dX6_hang_37 ⟨rfl, rfl⟩
    · refine j_iconst C dX6_hang_15 (v := nI 1) (by decide) ?_
      refine j_top C (bI (inI i (nI 0) (nI 7) && inI j (nI 0) (nI 7))) (by first | (rw [cq5, cq12]; rfl)) ?_
      refine j_goto C dX6_hang_16 (tgt := 20) (by decide) ?_
      refine j_iload_n C dX6_hang_20 rfl ?_
      refine j_iload_n C dX6_hang_21 rfl ?_
      refine j_icmp_eq C dX6_hang_22 (tgt := 29) (by decide) (fun cq22 => ?_) (fun cq22 => ?_)
      · refine j_iconst C dX6_hang_29 (v := nI 0) (by decide) ?_
        refine j_top C (bI (!decide (i = j))) (by rw [decide_eq_true cq22]; rfl) ?_
        refine j_callV C cm_goes dX6_hang_30 rfl (by decide) (T := TX6) rfl gX6_hang_X6_goes rfl kd_X6_goes rfl rfl (Nat.le_of_ble_eq_true rfl) ⟨by decide, by decide⟩ ⟨Nat.zero_le _, Nat.zero_le _⟩ (k_I ?_)
        refine j_if_neB C dX6_hang_33 (tgt := 38) (by decide) (fun cq33 => absurd cq33 (by rw [hbad]; decide)) (fun cq33 => ?_)
        refine j_iconst C dX6_hang_36 (v := nI 0) (by decide) ?_
        exact j_ireturn C hret dX6_hang_37 ⟨rfl, rfl⟩
      · refine j_iconst C dX6_hang_25 (v := nI 1) (by decide) ?_
        refine j_top C (bI (!decide (i = j))) (by rw [decide_eq_false cq22]; rfl) ?_
        refine j_goto C dX6_hang_26 (tgt := 30) (by decide) ?_
        refine j_callV C cm_goes dX6_hang_30 rfl (by decide) (T := TX6) rfl gX6_hang_X6_goes rfl kd_X6_goes rfl rfl (Nat.le_of_ble_eq_true rfl) ⟨by decide, by decide⟩ ⟨Nat.zero_le _, Nat.zero_le _⟩ (k_I ?_)
        refine j_if_neB C dX6_hang_33 (tgt := 38) (by decide) (fun cq33 => absurd cq33 (by rw [hbad]; decide)) (fun cq33 => ?_)
        refine j_iconst C dX6_hang_36 (v := nI 0) (by decide) ?_
        exact j_ireturn C hret dX6_hang_37 ⟨rfl, rfl⟩

set_option maxHeartbeats 4000000 in
set_option maxRecDepth 100000 in
theorem cf_takeDown {l : Launch} {G : GG} {M : MM} {σ : Sg} (hS : Sm M 0 σ) (hW : Wf σ) {c : Int32} (hbad : (inI c (nI 0) (nI (σ 44) - nI 1) && true) = false) : Ct l G yX6_takeDown wsX6_takeDown 8 ([.ref (G.2.2 84), .int (c)] : List Value) M (rI (nI 0) (setV M 84 5 (nI (thr (inI c (nI 0) (nI (σ 44) - nI 1)) (true))))) := by
  refine Ct.of (cc := cX6_takeDown) (maxL := 4) (ret := (some .int)) (lv := [(0, .ref (G.2.2 84)), (1, .int (c))]) (by decide) rfl rfl (Nat.le_of_ble_eq_true rfl) ?_
  intro pg ev sg mm bl mt cd AZ C hret
  refine j_aload_n C dX6_takeDown_0 rfl ?_
  refine j_aload_n C dX6_takeDown_1 rfl ?_
  refine j_iload_n C dX6_takeDown_2 rfl ?_
  refine j_callV C (cm_isChart hS hW) dX6_takeDown_3 rfl (by decide) (T := TX6) rfl gX6_takeDown_X6_isChart rfl kd_X6_isChart rfl rfl (Nat.le_of_ble_eq_true rfl) ⟨by decide, by decide⟩ ⟨Nat.zero_le _, Nat.zero_le _⟩ (k_I ?_)
  refine j_iconst C dX6_takeDown_6 (v := nI 1) (by decide) ?_
  refine j_top C (bI true) rfl ?_
  refine j_callV C cm_goes dX6_takeDown_7 rfl (by decide) (T := TX6) rfl gX6_takeDown_X6_goes rfl kd_X6_goes rfl rfl (Nat.le_of_ble_eq_true rfl) ⟨by decide, by decide⟩ ⟨Nat.zero_le _, Nat.zero_le _⟩ (k_I ?_)
  refine j_if_neB C dX6_takeDown_10 (tgt := 15) (by decide) (fun cq10 => absurd cq10 (by rw [hbad]; decide)) (fun cq10 => ?_)
  refine j_iconst C dX6_takeDown_13 (v := nI 0) (by decide) ?_
  exact j_ireturn C hret dX6_takeDown_14 ⟨rfl, rfl⟩

set_option maxHeartbeats 4000000 in
set_option maxRecDepth 100000 in
theorem cf_correct {l : Launch} {G : GG} {M : MM} {σ : Sg} (hS : Sm M 0 σ) (hW : Wf σ) {c p : Int32} (hbad : ((inI c (nI 0) (nI (σ 44) - nI 1) && inI p (nI 0) (nI 3)) && true) = false) : Ct l G yX6_correct wsX6_correct 5 ([.ref (G.2.2 84), .int (c), .int (p)] : List Value) M (rI (nI 0) (setV M 84 5 (nI (thr ((inI c (nI 0) (nI (σ 44) - nI 1) && inI p (nI 0) (nI 3))) (true))))) := by
  refine Ct.of (cc := cX6_correct) (maxL := 5) (ret := (some .int)) (lv := [(0, .ref (G.2.2 84)), (1, .int (c)), (2, .int (p))]) (by decide) rfl rfl (Nat.le_of_ble_eq_true rfl) ?_
  intro pg ev sg mm bl mt cd AZ C hret
  refine j_aload_n C dX6_correct_0 rfl ?_
  refine j_aload_n C dX6_correct_1 rfl ?_
  refine j_iload_n C dX6_correct_2 rfl ?_
  refine j_callV C (cm_isChart hS hW) dX6_correct_3 rfl (by decide) (T := TX6) rfl gX6_correct_X6_isChart rfl kd_X6_isChart rfl rfl (Nat.le_of_ble_eq_true rfl) ⟨by decide, by decide⟩ ⟨Nat.zero_le _, Nat.zero_le _⟩ (k_I ?_)
  refine j_if_eqB C dX6_correct_6 (tgt := 20) (by decide) (fun cq6 => ?_) (fun cq6 => ?_)
  · refine j_iconst C dX6_correct_20 (v := nI 0) (by decide) ?_
    refine j_top C (bI (inI c (nI 0) (nI (σ 44) - nI 1) && inI p (nI 0) (nI 3))) (by first | (rw [cq6, cq13]; rfl) | (rw [cq6]; rfl)) ?_
    refine j_iconst C dX6_correct_21 (v := nI 1) (by decide) ?_
    refine j_top C (bI true) rfl ?_
    refine j_callV C cm_goes dX6_correct_22 rfl (by decide) (T := TX6) rfl gX6_correct_X6_goes rfl kd_X6_goes rfl rfl (Nat.le_of_ble_eq_true rfl) ⟨by decide, by decide⟩ ⟨Nat.zero_le _, Nat.zero_le _⟩ (k_I ?_)
    refine j_if_neB C dX6_correct_25 (tgt := 30) (by decide) (fun cq25 => absurd cq25 (by rw [hbad]; decide)) (fun cq25 => ?_)
    refine j_iconst C dX6_correct_28 (v := nI 0) (by decide) ?_
    exact j_ireturn C hret dX6_correct_29 ⟨rfl, rfl⟩
  · refine j_iload_n C dX6_correct_9 rfl ?_
    refine j_callS C cm_isPainter dX6_correct_10 gX6_correct_X6_isPainter rfl ks_X6_isPainter rfl rfl (Nat.le_of_ble_eq_true rfl) ⟨by decide, by decide⟩ ⟨Nat.zero_le _, Nat.zero_le _⟩ (k_I ?_)
    refine j_if_eqB C dX6_correct_13 (tgt := 20) (by decide) (fun cq13 => ?_) (fun cq13 => ?_)
    · refine j_iconst C dX6_correct_20 (v := nI 0) (by decide) ?_
      refine j_top C (bI (inI c (nI 0) (nI (σ 44) - nI 1) && inI p (nI 0) (nI 3))) (by first | (rw [cq6, cq13]; rfl) | (rw [cq6]; rfl)) ?_
      refine j_iconst C dX6_correct_21 (v := nI 1) (by decide) ?_
      refine j_top C (bI true) rfl ?_
      refine j_callV C cm_goes dX6_correct_22 rfl (by decide) (T := TX6) rfl gX6_correct_X6_goes rfl kd_X6_goes rfl rfl (Nat.le_of_ble_eq_true rfl) ⟨by decide, by decide⟩ ⟨Nat.zero_le _, Nat.zero_le _⟩ (k_I ?_)
      refine j_if_neB C dX6_correct_25 (tgt := 30) (by decide) (fun cq25 => absurd cq25 (by rw [hbad]; decide)) (fun cq25 => ?_)
      refine j_iconst C dX6_correct_28 (v := nI 0) (by decide) ?_
      exact j_ireturn C hret dX6_correct_29 ⟨rfl, rfl⟩
    · refine j_iconst C dX6_correct_16 (v := nI 1) (by decide) ?_
      refine j_top C (bI (inI c (nI 0) (nI (σ 44) - nI 1) && inI p (nI 0) (nI 3))) (by first | (rw [cq6, cq13]; rfl)) ?_
      refine j_goto C dX6_correct_17 (tgt := 21) (by decide) ?_
      refine j_iconst C dX6_correct_21 (v := nI 1) (by decide) ?_
      refine j_top C (bI true) rfl ?_
      refine j_callV C cm_goes dX6_correct_22 rfl (by decide) (T := TX6) rfl gX6_correct_X6_goes rfl kd_X6_goes rfl rfl (Nat.le_of_ble_eq_true rfl) ⟨by decide, by decide⟩ ⟨Nat.zero_le _, Nat.zero_le _⟩ (k_I ?_)
      refine j_if_neB C dX6_correct_25 (tgt := 30) (by decide) (fun cq25 => absurd cq25 (by rw [hbad]; decide)) (fun cq25 => ?_)
      refine j_iconst C dX6_correct_28 (v := nI 0) (by decide) ?_
      exact j_ireturn C hret dX6_correct_29 ⟨rfl, rfl⟩

set_option maxHeartbeats 4000000 in
set_option maxRecDepth 100000 in
theorem cf_append {l : Launch} {G : GG} {M : MM} {n : Nat} (hn : M.2.1 84 4 = nI n) (hn2 : n ≤ 60) {v : Int32} (hbad : (inI v (nI 33) (nI 126) && (decide (n < 60))) = false) : Ct l G yX6_append wsX6_append 2 ([.ref (G.2.2 84), .int (v)] : List Value) M (rI (nI 0) (setV M 84 5 (nI (thr (inI v (nI 33) (nI 126)) ((decide (n < 60))))))) := by
  refine Ct.of (cc := cX6_append) (maxL := 2) (ret := (some .int)) (lv := [(0, .ref (G.2.2 84)), (1, .int (v))]) (by decide) rfl rfl (Nat.le_of_ble_eq_true rfl) ?_
  intro pg ev sg mm bl mt cd AZ C hret
  refine j_aload_n C dX6_append_0 rfl ?_
  refine j_iload_n C dX6_append_1 rfl ?_
  refine j_bipush C dX6_append_2 (v := nI 33) (by decide) ?_
  refine j_bipush C dX6_append_4 (v := nI 126) (by decide) ?_
  refine j_callS C cm_in dX6_append_6 gX6_append_X6_in rfl ks_X6_in rfl rfl (Nat.le_of_ble_eq_true rfl) ⟨by decide, by decide⟩ ⟨Nat.zero_le _, Nat.zero_le _⟩ (k_I ?_)
  refine j_aload_n C dX6_append_9 rfl ?_
  refine j_getf C dX6_append_10 rfl (by decide) (T := TX6) rfl in_X6_append_X6 (k := 4) (by decide) fl_X6_append_127 rfl rfl ?_
  refine j_top C (_) hn ?_
  refine j_bipush C dX6_append_13 (v := nI 60) (by decide) ?_
  refine j_icmp_geN C dX6_append_15 (tgt := 22) (by decide) (by omega) (by omega) (fun cq15 => ?_) (fun cq15 => ?_)
  · refine j_iconst C dX6_append_22 (v := nI 0) (by decide) ?_
    refine j_top C (bI (decide (n < 60))) (by rw [decide_eq_false (by omega)]; rfl) ?_
    refine j_callV C cm_goes dX6_append_23 rfl (by decide) (T := TX6) rfl gX6_append_X6_goes rfl kd_X6_goes rfl rfl (Nat.le_of_ble_eq_true rfl) ⟨by decide, by decide⟩ ⟨Nat.zero_le _, Nat.zero_le _⟩ (k_I ?_)
    refine j_if_neB C dX6_append_26 (tgt := 31) (by decide) (fun cq26 => absurd cq26 (by rw [hbad]; decide)) (fun cq26 => ?_)
    refine j_iconst C dX6_append_29 (v := nI 0) (by decide) ?_
    exact j_ireturn C hret dX6_append_30 ⟨rfl, rfl⟩
  · refine j_iconst C dX6_append_18 (v := nI 1) (by decide) ?_
    refine j_top C (bI (decide (n < 60))) (by rw [decide_eq_true (by omega)]; rfl) ?_
    refine j_goto C dX6_append_19 (tgt := 23) (by decide) ?_
    refine j_callV C cm_goes dX6_append_23 rfl (by decide) (T := TX6) rfl gX6_append_X6_goes rfl kd_X6_goes rfl rfl (Nat.le_of_ble_eq_true rfl) ⟨by decide, by decide⟩ ⟨Nat.zero_le _, Nat.zero_le _⟩ (k_I ?_)
    refine j_if_neB C dX6_append_26 (tgt := 31) (by decide) (fun cq26 => absurd cq26 (by rw [hbad]; decide)) (fun cq26 => ?_)
    refine j_iconst C dX6_append_29 (v := nI 0) (by decide) ?_
    exact j_ireturn C hret dX6_append_30 ⟨rfl, rfl⟩

set_option maxHeartbeats 4000000 in
set_option maxRecDepth 100000 in
theorem cf_keep {l : Launch} {G : GG} {M : MM} {v : Int32} (hbad : (isS v && true) = false) : Ct l G yX6_keep wsX6_keep 3 ([.ref (G.2.2 84), .int (v)] : List Value) M (rI (nI 0) (setV M 84 5 (nI (thr (isS v) (true))))) := by
  refine Ct.of (cc := cX6_keep) (maxL := 2) (ret := (some .int)) (lv := [(0, .ref (G.2.2 84)), (1, .int (v))]) (by decide) rfl rfl (Nat.le_of_ble_eq_true rfl) ?_
  intro pg ev sg mm bl mt cd AZ C hret
  refine j_aload_n C dX6_keep_0 rfl ?_
  refine j_iload_n C dX6_keep_1 rfl ?_
  refine j_callS C cm_isSlot dX6_keep_2 gX6_keep_X6_isSlot rfl ks_X6_isSlot rfl rfl (Nat.le_of_ble_eq_true rfl) ⟨by decide, by decide⟩ ⟨Nat.zero_le _, Nat.zero_le _⟩ (k_I ?_)
  refine j_iconst C dX6_keep_5 (v := nI 1) (by decide) ?_
  refine j_top C (bI true) rfl ?_
  refine j_callV C cm_goes dX6_keep_6 rfl (by decide) (T := TX6) rfl gX6_keep_X6_goes rfl kd_X6_goes rfl rfl (Nat.le_of_ble_eq_true rfl) ⟨by decide, by decide⟩ ⟨Nat.zero_le _, Nat.zero_le _⟩ (k_I ?_)
  refine j_if_neB C dX6_keep_9 (tgt := 14) (by decide) (fun cq9 => absurd cq9 (by rw [hbad]; decide)) (fun cq9 => ?_)
  refine j_iconst C dX6_keep_12 (v := nI 0) (by decide) ?_
  exact j_ireturn C hret dX6_keep_13 ⟨rfl, rfl⟩

set_option maxHeartbeats 4000000 in
set_option maxRecDepth 100000 in
theorem cf_potOf {l : Launch} {G : GG} {M : MM} {i k : Int32} (hbad : (inI i (nI 0) (nI 7) && inI k (nI 0) (nI 4)) = false) : Ct l G yX6_potOf wsX6_potOf 8 ([.ref (G.2.2 84), .int (i), .int (k)] : List Value) M (rI (nI 0) (setV M 84 5 (nI (thr (inI i (nI 0) (nI 7)) (inI k (nI 0) (nI 4)))))) := by
  refine Ct.of (cc := cX6_potOf) (maxL := 3) (ret := (some .int)) (lv := [(0, .ref (G.2.2 84)), (1, .int (i)), (2, .int (k))]) (by decide) rfl rfl (Nat.le_of_ble_eq_true rfl) ?_
  intro pg ev sg mm bl mt cd AZ C hret
  refine j_aload_n C dX6_potOf_0 rfl ?_
  refine j_iload_n C dX6_potOf_1 rfl ?_
  refine j_callS C cm_isPot dX6_potOf_2 gX6_potOf_X6_isPot rfl ks_X6_isPot rfl rfl (Nat.le_of_ble_eq_true rfl) ⟨by decide, by decide⟩ ⟨Nat.zero_le _, Nat.zero_le _⟩ (k_I ?_)
  refine j_iload_n C dX6_potOf_5 rfl ?_
  refine j_iconst C dX6_potOf_6 (v := nI 0) (by decide) ?_
  refine j_iconst C dX6_potOf_7 (v := nI 4) (by decide) ?_
  refine j_callS C cm_in dX6_potOf_8 gX6_potOf_X6_in rfl ks_X6_in rfl rfl (Nat.le_of_ble_eq_true rfl) ⟨by decide, by decide⟩ ⟨Nat.zero_le _, Nat.zero_le _⟩ (k_I ?_)
  refine j_callV C cm_goes dX6_potOf_11 rfl (by decide) (T := TX6) rfl gX6_potOf_X6_goes rfl kd_X6_goes rfl rfl (Nat.le_of_ble_eq_true rfl) ⟨by decide, by decide⟩ ⟨Nat.zero_le _, Nat.zero_le _⟩ (k_I ?_)
  refine j_if_eqB C dX6_potOf_14 (tgt := 26) (by decide) (fun cq14 => ?_) (fun cq14 => absurd cq14 (by rw [hbad]; decide))
  refine j_iconst C dX6_potOf_26 (v := nI 0) (by decide) ?_
  exact j_ireturn C hret dX6_potOf_27 ⟨rfl, rfl⟩

set_option maxHeartbeats 4000000 in
set_option maxRecDepth 100000 in
theorem cf_seen {l : Launch} {G : GG} {M : MM} {p q : Int32} (hbad : ((inI p (nI 0) (nI 3) && inI q (nI 0) (nI 7)) && true) = false) : Ct l G yX6_seen wsX6_seen 3 ([.ref (G.2.2 84), .int (p), .int (q)] : List Value) M (rI (nI 0) (setV M 84 5 (nI (thr ((inI p (nI 0) (nI 3) && inI q (nI 0) (nI 7))) (true))))) := by
  refine Ct.of (cc := cX6_seen) (maxL := 3) (ret := (some .int)) (lv := [(0, .ref (G.2.2 84)), (1, .int (p)), (2, .int (q))]) (by decide) rfl rfl (Nat.le_of_ble_eq_true rfl) ?_
  intro pg ev sg mm bl mt cd AZ C hret
  refine j_aload_n C dX6_seen_0 rfl ?_
  refine j_iload_n C dX6_seen_1 rfl ?_
  refine j_callS C cm_isPainter dX6_seen_2 gX6_seen_X6_isPainter rfl ks_X6_isPainter rfl rfl (Nat.le_of_ble_eq_true rfl) ⟨by decide, by decide⟩ ⟨Nat.zero_le _, Nat.zero_le _⟩ (k_I ?_)
  refine j_if_eqB C dX6_seen_5 (tgt := 19) (by decide) (fun cq5 => ?_) (fun cq5 => ?_)
  · refine j_iconst C dX6_seen_19 (v := nI 0) (by decide) ?_
    refine j_top C (bI (inI p (nI 0) (nI 3) && inI q (nI 0) (nI 7))) (by first | (rw [cq5, cq12]; rfl) | (rw [cq5]; rfl)) ?_
    refine j_iconst C dX6_seen_20 (v := nI 1) (by decide) ?_
    refine j_top C (bI true) rfl ?_
    refine j_callV C cm_goes dX6_seen_21 rfl (by decide) (T := TX6) rfl gX6_seen_X6_goes rfl kd_X6_goes rfl rfl (Nat.le_of_ble_eq_true rfl) ⟨by decide, by decide⟩ ⟨Nat.zero_le _, Nat.zero_le _⟩ (k_I ?_)
    refine j_if_eqB C dX6_seen_24 (tgt := 36) (by decide) (fun cq24 => ?_) (fun cq24 => absurd cq24 (by rw [hbad]; decide))
    refine j_iconst C dX6_seen_36 (v := nI 0) (by decide) ?_
    exact j_ireturn C hret dX6_seen_37 ⟨rfl, rfl⟩
  · refine j_iload_n C dX6_seen_8 rfl ?_
    refine j_callS C cm_isPot dX6_seen_9 gX6_seen_X6_isPot rfl ks_X6_isPot rfl rfl (Nat.le_of_ble_eq_true rfl) ⟨by decide, by decide⟩ ⟨Nat.zero_le _, Nat.zero_le _⟩ (k_I ?_)
    refine j_if_eqB C dX6_seen_12 (tgt := 19) (by decide) (fun cq12 => ?_) (fun cq12 => ?_)
    · refine j_iconst C dX6_seen_19 (v := nI 0) (by decide) ?_
      refine j_top C (bI (inI p (nI 0) (nI 3) && inI q (nI 0) (nI 7))) (by first | (rw [cq5, cq12]; rfl) | (rw [cq5]; rfl)) ?_
      refine j_iconst C dX6_seen_20 (v := nI 1) (by decide) ?_
      refine j_top C (bI true) rfl ?_
      refine j_callV C cm_goes dX6_seen_21 rfl (by decide) (T := TX6) rfl gX6_seen_X6_goes rfl kd_X6_goes rfl rfl (Nat.le_of_ble_eq_true rfl) ⟨by decide, by decide⟩ ⟨Nat.zero_le _, Nat.zero_le _⟩ (k_I ?_)
      refine j_if_eqB C dX6_seen_24 (tgt := 36) (by decide) (fun cq24 => ?_) (fun cq24 => absurd cq24 (by rw [hbad]; decide))
      refine j_iconst C dX6_seen_36 (v := nI 0) (by decide) ?_
      exact j_ireturn C hret dX6_seen_37 ⟨rfl, rfl⟩
    · refine j_iconst C dX6_seen_15 (v := nI 1) (by decide) ?_
      refine j_top C (bI (inI p (nI 0) (nI 3) && inI q (nI 0) (nI 7))) (by first | (rw [cq5, cq12]; rfl)) ?_
      refine j_goto C dX6_seen_16 (tgt := 20) (by decide) ?_
      refine j_iconst C dX6_seen_20 (v := nI 1) (by decide) ?_
      refine j_top C (bI true) rfl ?_
      refine j_callV C cm_goes dX6_seen_21 rfl (by decide) (T := TX6) rfl gX6_seen_X6_goes rfl kd_X6_goes rfl rfl (Nat.le_of_ble_eq_true rfl) ⟨by decide, by decide⟩ ⟨Nat.zero_le _, Nat.zero_le _⟩ (k_I ?_)
      refine j_if_eqB C dX6_seen_24 (tgt := 36) (by decide) (fun cq24 => ?_) (fun cq24 => absurd cq24 (by rw [hbad]; decide))
      refine j_iconst C dX6_seen_36 (v := nI 0) (by decide) ?_
      exact j_ireturn C hret dX6_seen_37 ⟨rfl, rfl⟩

set_option maxHeartbeats 4000000 in
set_option maxRecDepth 100000 in
theorem cf_painterOf {l : Launch} {G : GG} {M : MM} {p k : Int32} (hbad : (inI p (nI 0) (nI 3) && inI k (nI 0) (nI 6)) = false) : Ct l G yX6_painterOf wsX6_painterOf 9 ([.ref (G.2.2 84), .int (p), .int (k)] : List Value) M (rI (nI 0) (setV M 84 5 (nI (thr (inI p (nI 0) (nI 3)) (inI k (nI 0) (nI 6)))))) := by
  refine Ct.of (cc := cX6_painterOf) (maxL := 3) (ret := (some .int)) (lv := [(0, .ref (G.2.2 84)), (1, .int (p)), (2, .int (k))]) (by decide) rfl rfl (Nat.le_of_ble_eq_true rfl) ?_
  intro pg ev sg mm bl mt cd AZ C hret
  refine j_aload_n C dX6_painterOf_0 rfl ?_
  refine j_iload_n C dX6_painterOf_1 rfl ?_
  refine j_callS C cm_isPainter dX6_painterOf_2 gX6_painterOf_X6_isPainter rfl ks_X6_isPainter rfl rfl (Nat.le_of_ble_eq_true rfl) ⟨by decide, by decide⟩ ⟨Nat.zero_le _, Nat.zero_le _⟩ (k_I ?_)
  refine j_iload_n C dX6_painterOf_5 rfl ?_
  refine j_iconst C dX6_painterOf_6 (v := nI 0) (by decide) ?_
  refine j_bipush C dX6_painterOf_7 (v := nI 6) (by decide) ?_
  refine j_callS C cm_in dX6_painterOf_9 gX6_painterOf_X6_in rfl ks_X6_in rfl rfl (Nat.le_of_ble_eq_true rfl) ⟨by decide, by decide⟩ ⟨Nat.zero_le _, Nat.zero_le _⟩ (k_I ?_)
  refine j_callV C cm_goes dX6_painterOf_12 rfl (by decide) (T := TX6) rfl gX6_painterOf_X6_goes rfl kd_X6_goes rfl rfl (Nat.le_of_ble_eq_true rfl) ⟨by decide, by decide⟩ ⟨Nat.zero_le _, Nat.zero_le _⟩ (k_I ?_)
  refine j_if_eqB C dX6_painterOf_15 (tgt := 27) (by decide) (fun cq15 => ?_) (fun cq15 => absurd cq15 (by rw [hbad]; decide))
  refine j_iconst C dX6_painterOf_27 (v := nI 0) (by decide) ?_
  exact j_ireturn C hret dX6_painterOf_28 ⟨rfl, rfl⟩

set_option maxHeartbeats 4000000 in
set_option maxRecDepth 100000 in
theorem cf_apart {l : Launch} {G : GG} {M : MM} {p i j : Int32} (hbad : ((inI p (nI 0) (nI 3) && (inI i (nI 0) (nI 7) && inI j (nI 0) (nI 7))) && true) = false) : Ct l G yX6_apart wsX6_apart 6 ([.ref (G.2.2 84), .int (p), .int (i), .int (j)] : List Value) M (rI (nI 0) (setV M 84 5 (nI (thr ((inI p (nI 0) (nI 3) && (inI i (nI 0) (nI 7) && inI j (nI 0) (nI 7)))) (true))))) := by
  refine Ct.of (cc := cX6_apart) (maxL := 4) (ret := (some .int)) (lv := [(0, .ref (G.2.2 84)), (1, .int (p)), (2, .int (i)), (3, .int (j))]) (by decide) rfl rfl (Nat.le_of_ble_eq_true rfl) ?_
  intro pg ev sg mm bl mt cd AZ C hret
  refine j_aload_n C dX6_apart_0 rfl ?_
  refine j_iload_n C dX6_apart_1 rfl ?_
  refine j_callS C cm_isPainter dX6_apart_2 gX6_apart_X6_isPainter rfl ks_X6_isPainter rfl rfl (Nat.le_of_ble_eq_true rfl) ⟨by decide, by decide⟩ ⟨Nat.zero_le _, Nat.zero_le _⟩ (k_I ?_)
  refine j_if_eqB C dX6_apart_5 (tgt := 26) (by decide) (fun cq5 => ?_) (fun cq5 => ?_)
  · refine j_iconst C dX6_apart_26 (v := nI 0) (by decide) ?_
    refine j_top C (bI (inI p (nI 0) (nI 3) && (inI i (nI 0) (nI 7) && inI j (nI 0) (nI 7)))) (by first | (rw [cq5, cq12, cq19]; rfl) | (rw [cq5, cq12]; rfl) | (rw [cq5]; rfl)) ?_
    refine j_iconst C dX6_apart_27 (v := nI 1) (by decide) ?_
    refine j_top C (bI true) rfl ?_
    refine j_callV C cm_goes dX6_apart_28 rfl (by decide) (T := TX6) rfl gX6_apart_X6_goes rfl kd_X6_goes rfl rfl (Nat.le_of_ble_eq_true rfl) ⟨by decide, by decide⟩ ⟨Nat.zero_le _, Nat.zero_le _⟩ (k_I ?_)
    refine j_if_eqB C dX6_apart_31 (tgt := 48) (by decide) (fun cq31 => ?_) (fun cq31 => absurd cq31 (by rw [hbad]; decide))
    refine j_iconst C dX6_apart_48 (v := nI 0) (by decide) ?_
    exact j_ireturn C hret dX6_apart_49 ⟨rfl, rfl⟩
  · refine j_iload_n C dX6_apart_8 rfl ?_
    refine j_callS C cm_isPot dX6_apart_9 gX6_apart_X6_isPot rfl ks_X6_isPot rfl rfl (Nat.le_of_ble_eq_true rfl) ⟨by decide, by decide⟩ ⟨Nat.zero_le _, Nat.zero_le _⟩ (k_I ?_)
    refine j_if_eqB C dX6_apart_12 (tgt := 26) (by decide) (fun cq12 => ?_) (fun cq12 => ?_)
    · refine j_iconst C dX6_apart_26 (v := nI 0) (by decide) ?_
      refine j_top C (bI (inI p (nI 0) (nI 3) && (inI i (nI 0) (nI 7) && inI j (nI 0) (nI 7)))) (by first | (rw [cq5, cq12, cq19]; rfl) | (rw [cq5, cq12]; rfl) | (rw [cq5]; rfl)) ?_
      refine j_iconst C dX6_apart_27 (v := nI 1) (by decide) ?_
      refine j_top C (bI true) rfl ?_
      refine j_callV C cm_goes dX6_apart_28 rfl (by decide) (T := TX6) rfl gX6_apart_X6_goes rfl kd_X6_goes rfl rfl (Nat.le_of_ble_eq_true rfl) ⟨by decide, by decide⟩ ⟨Nat.zero_le _, Nat.zero_le _⟩ (k_I ?_)
      refine j_if_eqB C dX6_apart_31 (tgt := 48) (by decide) (fun cq31 => ?_) (fun cq31 => absurd cq31 (by rw [hbad]; decide))
      refine j_iconst C dX6_apart_48 (v := nI 0) (by decide) ?_
      exact j_ireturn C hret dX6_apart_49 ⟨rfl, rfl⟩
    · refine j_iload_n C dX6_apart_15 rfl ?_
      refine j_callS C cm_isPot dX6_apart_16 gX6_apart_X6_isPot rfl ks_X6_isPot rfl rfl (Nat.le_of_ble_eq_true rfl) ⟨by decide, by decide⟩ ⟨Nat.zero_le _, Nat.zero_le _⟩ (k_I ?_)
      refine j_if_eqB C dX6_apart_19 (tgt := 26) (by decide) (fun cq19 => ?_) (fun cq19 => ?_)
      · refine j_iconst C dX6_apart_26 (v := nI 0) (by decide) ?_
        refine j_top C (bI (inI p (nI 0) (nI 3) && (inI i (nI 0) (nI 7) && inI j (nI 0) (nI 7)))) (by first | (rw [cq5, cq12, cq19]; rfl) | (rw [cq5, cq12]; rfl) | (rw [cq5]; rfl)) ?_
        refine j_iconst C dX6_apart_27 (v := nI 1) (by decide) ?_
        refine j_top C (bI true) rfl ?_
        refine j_callV C cm_goes dX6_apart_28 rfl (by decide) (T := TX6) rfl gX6_apart_X6_goes rfl kd_X6_goes rfl rfl (Nat.le_of_ble_eq_true rfl) ⟨by decide, by decide⟩ ⟨Nat.zero_le _, Nat.zero_le _⟩ (k_I ?_)
        refine j_if_eqB C dX6_apart_31 (tgt := 48) (by decide) (fun cq31 => ?_) (fun cq31 => absurd cq31 (by rw [hbad]; decide))
        refine j_iconst C dX6_apart_48 (v := nI 0) (by decide) ?_
        exact j_ireturn C hret dX6_apart_49 ⟨rfl, rfl⟩
      · refine j_iconst C dX6_apart_22 (v := nI 1) (by decide) ?_
        refine j_top C (bI (inI p (nI 0) (nI 3) && (inI i (nI 0) (nI 7) && inI j (nI 0) (nI 7)))) (by first | (rw [cq5, cq12, cq19]; rfl)) ?_
        refine j_goto C dX6_apart_23 (tgt := 27) (by decide) ?_
        refine j_iconst C dX6_apart_27 (v := nI 1) (by decide) ?_
        refine j_top C (bI true) rfl ?_
        refine j_callV C cm_goes dX6_apart_28 rfl (by decide) (T := TX6) rfl gX6_apart_X6_goes rfl kd_X6_goes rfl rfl (Nat.le_of_ble_eq_true rfl) ⟨by decide, by decide⟩ ⟨Nat.zero_le _, Nat.zero_le _⟩ (k_I ?_)
        refine j_if_eqB C dX6_apart_31 (tgt := 48) (by decide) (fun cq31 => ?_) (fun cq31 => absurd cq31 (by rw [hbad]; decide))
        refine j_iconst C dX6_apart_48 (v := nI 0) (by decide) ?_
        exact j_ireturn C hret dX6_apart_49 ⟨rfl, rfl⟩

set_option maxHeartbeats 4000000 in
set_option maxRecDepth 100000 in
theorem cf_chartOf {l : Launch} {G : GG} {M : MM} {σ : Sg} (hS : Sm M 0 σ) (hW : Wf σ) {c k : Int32} (hbad : (inI c (nI 0) (nI (σ 44) - nI 1) && inI k (nI 0) (nI 2)) = false) : Ct l G yX6_chartOf wsX6_chartOf 9 ([.ref (G.2.2 84), .int (c), .int (k)] : List Value) M (rI (nI 0) (setV M 84 5 (nI (thr (inI c (nI 0) (nI (σ 44) - nI 1)) (inI k (nI 0) (nI 2)))))) := by
  refine Ct.of (cc := cX6_chartOf) (maxL := 3) (ret := (some .int)) (lv := [(0, .ref (G.2.2 84)), (1, .int (c)), (2, .int (k))]) (by decide) rfl rfl (Nat.le_of_ble_eq_true rfl) ?_
  intro pg ev sg mm bl mt cd AZ C hret
  refine j_aload_n C dX6_chartOf_0 rfl ?_
  refine j_aload_n C dX6_chartOf_1 rfl ?_
  refine j_iload_n C dX6_chartOf_2 rfl ?_
  refine j_callV C (cm_isChart hS hW) dX6_chartOf_3 rfl (by decide) (T := TX6) rfl gX6_chartOf_X6_isChart rfl kd_X6_isChart rfl rfl (Nat.le_of_ble_eq_true rfl) ⟨by decide, by decide⟩ ⟨Nat.zero_le _, Nat.zero_le _⟩ (k_I ?_)
  refine j_iload_n C dX6_chartOf_6 rfl ?_
  refine j_iconst C dX6_chartOf_7 (v := nI 0) (by decide) ?_
  refine j_iconst C dX6_chartOf_8 (v := nI 2) (by decide) ?_
  refine j_callS C cm_in dX6_chartOf_9 gX6_chartOf_X6_in rfl ks_X6_in rfl rfl (Nat.le_of_ble_eq_true rfl) ⟨by decide, by decide⟩ ⟨Nat.zero_le _, Nat.zero_le _⟩ (k_I ?_)
  refine j_callV C cm_goes dX6_chartOf_12 rfl (by decide) (T := TX6) rfl gX6_chartOf_X6_goes rfl kd_X6_goes rfl rfl (Nat.le_of_ble_eq_true rfl) ⟨by decide, by decide⟩ ⟨Nat.zero_le _, Nat.zero_le _⟩ (k_I ?_)
  refine j_if_eqB C dX6_chartOf_15 (tgt := 27) (by decide) (fun cq15 => ?_) (fun cq15 => absurd cq15 (by rw [hbad]; decide))
  refine j_iconst C dX6_chartOf_27 (v := nI 0) (by decide) ?_
  exact j_ireturn C hret dX6_chartOf_28 ⟨rfl, rfl⟩

set_option maxHeartbeats 4000000 in
set_option maxRecDepth 100000 in
theorem cf_count {l : Launch} {G : GG} {M : MM} {k : Int32} (hbad : (inI k (nI 0) (nI 7) && true) = false) : Ct l G yX6_count wsX6_count 10 ([.ref (G.2.2 84), .int (k)] : List Value) M (rI (nI 0) (setV M 84 5 (nI (thr (inI k (nI 0) (nI 7)) (true))))) := by
  refine Ct.of (cc := cX6_count) (maxL := 2) (ret := (some .int)) (lv := [(0, .ref (G.2.2 84)), (1, .int (k))]) (by decide) rfl rfl (Nat.le_of_ble_eq_true rfl) ?_
  intro pg ev sg mm bl mt cd AZ C hret
  refine j_aload_n C dX6_count_0 rfl ?_
  refine j_iload_n C dX6_count_1 rfl ?_
  refine j_iconst C dX6_count_2 (v := nI 0) (by decide) ?_
  refine j_bipush C dX6_count_3 (v := nI 7) (by decide) ?_
  refine j_callS C cm_in dX6_count_5 gX6_count_X6_in rfl ks_X6_in rfl rfl (Nat.le_of_ble_eq_true rfl) ⟨by decide, by decide⟩ ⟨Nat.zero_le _, Nat.zero_le _⟩ (k_I ?_)
  refine j_iconst C dX6_count_8 (v := nI 1) (by decide) ?_
  refine j_top C (bI true) rfl ?_
  refine j_callV C cm_goes dX6_count_9 rfl (by decide) (T := TX6) rfl gX6_count_X6_goes rfl kd_X6_goes rfl rfl (Nat.le_of_ble_eq_true rfl) ⟨by decide, by decide⟩ ⟨Nat.zero_le _, Nat.zero_le _⟩ (k_I ?_)
  refine j_if_eqB C dX6_count_12 (tgt := 23) (by decide) (fun cq12 => ?_) (fun cq12 => absurd cq12 (by rw [hbad]; decide))
  refine j_iconst C dX6_count_23 (v := nI 0) (by decide) ?_
  exact j_ireturn C hret dX6_count_24 ⟨rfl, rfl⟩

set_option maxHeartbeats 4000000 in
set_option maxRecDepth 100000 in
theorem cf_ifBorrowed {l : Launch} {G : GG} {M : MM} {p q : Int32} (hbad : ((inI p (nI 0) (nI 3) && inI q (nI 0) (nI 3)) && true) = false) : Ct l G yX6_ifBorrowed wsX6_ifBorrowed 7 ([.ref (G.2.2 84), .int (p), .int (q)] : List Value) M (rI (nI 0) (setV M 84 5 (nI (thr ((inI p (nI 0) (nI 3) && inI q (nI 0) (nI 3))) (true))))) := by
  refine Ct.of (cc := cX6_ifBorrowed) (maxL := 3) (ret := (some .int)) (lv := [(0, .ref (G.2.2 84)), (1, .int (p)), (2, .int (q))]) (by decide) rfl rfl (Nat.le_of_ble_eq_true rfl) ?_
  intro pg ev sg mm bl mt cd AZ C hret
  refine j_aload_n C dX6_ifBorrowed_0 rfl ?_
  refine j_iload_n C dX6_ifBorrowed_1 rfl ?_
  refine j_callS C cm_isPainter dX6_ifBorrowed_2 gX6_ifBorrowed_X6_isPainter rfl ks_X6_isPainter rfl rfl (Nat.le_of_ble_eq_true rfl) ⟨by decide, by decide⟩ ⟨Nat.zero_le _, Nat.zero_le _⟩ (k_I ?_)
  refine j_if_eqB C dX6_ifBorrowed_5 (tgt := 19) (by decide) (fun cq5 => ?_) (fun cq5 => ?_)
  · refine j_iconst C dX6_ifBorrowed_19 (v := nI 0) (by decide) ?_
    refine j_top C (bI (inI p (nI 0) (nI 3) && inI q (nI 0) (nI 3))) (by first | (rw [cq5, cq12]; rfl) | (rw [cq5]; rfl)) ?_
    refine j_iconst C dX6_ifBorrowed_20 (v := nI 1) (by decide) ?_
    refine j_top C (bI true) rfl ?_
    refine j_callV C cm_goes dX6_ifBorrowed_21 rfl (by decide) (T := TX6) rfl gX6_ifBorrowed_X6_goes rfl kd_X6_goes rfl rfl (Nat.le_of_ble_eq_true rfl) ⟨by decide, by decide⟩ ⟨Nat.zero_le _, Nat.zero_le _⟩ (k_I ?_)
    refine j_if_eqB C dX6_ifBorrowed_24 (tgt := 36) (by decide) (fun cq24 => ?_) (fun cq24 => absurd cq24 (by rw [hbad]; decide))
    refine j_iconst C dX6_ifBorrowed_36 (v := nI 0) (by decide) ?_
    exact j_ireturn C hret dX6_ifBorrowed_37 ⟨rfl, rfl⟩
  · refine j_iload_n C dX6_ifBorrowed_8 rfl ?_
    refine j_callS C cm_isPainter dX6_ifBorrowed_9 gX6_ifBorrowed_X6_isPainter rfl ks_X6_isPainter rfl rfl (Nat.le_of_ble_eq_true rfl) ⟨by decide, by decide⟩ ⟨Nat.zero_le _, Nat.zero_le _⟩ (k_I ?_)
    refine j_if_eqB C dX6_ifBorrowed_12 (tgt := 19) (by decide) (fun cq12 => ?_) (fun cq12 => ?_)
    · refine j_iconst C dX6_ifBorrowed_19 (v := nI 0) (by decide) ?_
      refine j_top C (bI (inI p (nI 0) (nI 3) && inI q (nI 0) (nI 3))) (by first | (rw [cq5, cq12]; rfl) | (rw [cq5]; rfl)) ?_
      refine j_iconst C dX6_ifBorrowed_20 (v := nI 1) (by decide) ?_
      refine j_top C (bI true) rfl ?_
      refine j_callV C cm_goes dX6_ifBorrowed_21 rfl (by decide) (T := TX6) rfl gX6_ifBorrowed_X6_goes rfl kd_X6_goes rfl rfl (Nat.le_of_ble_eq_true rfl) ⟨by decide, by decide⟩ ⟨Nat.zero_le _, Nat.zero_le _⟩ (k_I ?_)
      refine j_if_eqB C dX6_ifBorrowed_24 (tgt := 36) (by decide) (fun cq24 => ?_) (fun cq24 => absurd cq24 (by rw [hbad]; decide))
      refine j_iconst C dX6_ifBorrowed_36 (v := nI 0) (by decide) ?_
      exact j_ireturn C hret dX6_ifBorrowed_37 ⟨rfl, rfl⟩
    · refine j_iconst C dX6_ifBorrowed_15 (v := nI 1) (by decide) ?_
      refine j_top C (bI (inI p (nI 0) (nI 3) && inI q (nI 0) (nI 3))) (by first | (rw [cq5, cq12]; rfl)) ?_
      refine j_goto C dX6_ifBorrowed_16 (tgt := 20) (by decide) ?_
      refine j_iconst C dX6_ifBorrowed_20 (v := nI 1) (by decide) ?_
      refine j_top C (bI true) rfl ?_
      refine j_callV C cm_goes dX6_ifBorrowed_21 rfl (by decide) (T := TX6) rfl gX6_ifBorrowed_X6_goes rfl kd_X6_goes rfl rfl (Nat.le_of_ble_eq_true rfl) ⟨by decide, by decide⟩ ⟨Nat.zero_le _, Nat.zero_le _⟩ (k_I ?_)
      refine j_if_eqB C dX6_ifBorrowed_24 (tgt := 36) (by decide) (fun cq24 => ?_) (fun cq24 => absurd cq24 (by rw [hbad]; decide))
      refine j_iconst C dX6_ifBorrowed_36 (v := nI 0) (by decide) ?_
      exact j_ireturn C hret dX6_ifBorrowed_37 ⟨rfl, rfl⟩

set_option maxHeartbeats 4000000 in
set_option maxRecDepth 100000 in
theorem cf_leastChange {l : Launch} {G : GG} {M : MM} {p i j : Int32} (hbad : ((inI p (nI 0) (nI 3) && (inI i (nI 0) (nI 7) && inI j (nI 0) (nI 7))) && (!decide (i = j))) = false) : Ct l G yX6_leastChange wsX6_leastChange 5 ([.ref (G.2.2 84), .int (p), .int (i), .int (j)] : List Value) M (rI (nI 0) (setV M 84 5 (nI (thr ((inI p (nI 0) (nI 3) && (inI i (nI 0) (nI 7) && inI j (nI 0) (nI 7)))) ((!decide (i = j))))))) := by
  refine Ct.of (cc := cX6_leastChange) (maxL := 4) (ret := (some .int)) (lv := [(0, .ref (G.2.2 84)), (1, .int (p)), (2, .int (i)), (3, .int (j))]) (by decide) rfl rfl (Nat.le_of_ble_eq_true rfl) ?_
  intro pg ev sg mm bl mt cd AZ C hret
  refine j_aload_n C dX6_leastChange_0 rfl ?_
  refine j_iload_n C dX6_leastChange_1 rfl ?_
  refine j_callS C cm_isPainter dX6_leastChange_2 gX6_leastChange_X6_isPainter rfl ks_X6_isPainter rfl rfl (Nat.le_of_ble_eq_true rfl) ⟨by decide, by decide⟩ ⟨Nat.zero_le _, Nat.zero_le _⟩ (k_I ?_)
  refine j_if_eqB C dX6_leastChange_5 (tgt := 26) (by decide) (fun cq5 => ?_) (fun cq5 => ?_)
  · refine j_iconst C dX6_leastChange_26 (v := nI 0) (by decide) ?_
    refine j_top C (bI (inI p (nI 0) (nI 3) && (inI i (nI 0) (nI 7) && inI j (nI 0) (nI 7)))) (by first | (rw [cq5, cq12, cq19]; rfl) | (rw [cq5, cq12]; rfl) | (rw [cq5]; rfl)) ?_
    refine j_iload_n C dX6_leastChange_27 rfl ?_
    refine j_iload_n C dX6_leastChange_28 rfl ?_
    refine j_icmp_eq C dX6_leastChange_29 (tgt := 36) (by decide) (fun cq29 => ?_) (fun cq29 => ?_)
    · refine j_iconst C dX6_leastChange_36 (v := nI 0) (by decide) ?_
      refine j_top C (bI (!decide (i = j))) (by rw [decide_eq_true cq29]; rfl) ?_
      refine j_callV C cm_goes dX6_leastChange_37 rfl (by decide) (T := TX6) rfl gX6_leastChange_X6_goes rfl kd_X6_goes rfl rfl (Nat.le_of_ble_eq_true rfl) ⟨by decide, by decide⟩ ⟨Nat.zero_le _, Nat.zero_le _⟩ (k_I ?_)
      refine j_if_eqB C dX6_leastChange_40 (tgt := 53) (by decide) (fun cq40 => ?_) (fun cq40 => absurd cq40 (by rw [hbad]; decide))
      refine j_iconst C dX6_leastChange_53 (v := nI 0) (by decide) ?_
      exact j_ireturn C hret dX6_leastChange_54 ⟨rfl, rfl⟩
    · refine j_iconst C dX6_leastChange_32 (v := nI 1) (by decide) ?_
      refine j_top C (bI (!decide (i = j))) (by rw [decide_eq_false cq29]; rfl) ?_
      refine j_goto C dX6_leastChange_33 (tgt := 37) (by decide) ?_
      refine j_callV C cm_goes dX6_leastChange_37 rfl (by decide) (T := TX6) rfl gX6_leastChange_X6_goes rfl kd_X6_goes rfl rfl (Nat.le_of_ble_eq_true rfl) ⟨by decide, by decide⟩ ⟨Nat.zero_le _, Nat.zero_le _⟩ (k_I ?_)
      refine j_if_eqB C dX6_leastChange_40 (tgt := 53) (by decide) (fun cq40 => ?_) (fun cq40 => absurd cq40 (by rw [hbad]; decide))
      refine j_iconst C dX6_leastChange_53 (v := nI 0) (by decide) ?_
      exact j_ireturn C hret dX6_leastChange_54 ⟨rfl, rfl⟩
  · refine j_iload_n C dX6_leastChange_8 rfl ?_
    refine j_callS C cm_isPot dX6_leastChange_9 gX6_leastChange_X6_isPot rfl ks_X6_isPot rfl rfl (Nat.le_of_ble_eq_true rfl) ⟨by decide, by decide⟩ ⟨Nat.zero_le _, Nat.zero_le _⟩ (k_I ?_)
    refine j_if_eqB C dX6_leastChange_12 (tgt := 26) (by decide) (fun cq12 => ?_) (fun cq12 => ?_)
    · refine j_iconst C dX6_leastChange_26 (v := nI 0) (by decide) ?_
      refine j_top C (bI (inI p (nI 0) (nI 3) && (inI i (nI 0) (nI 7) && inI j (nI 0) (nI 7)))) (by first | (rw [cq5, cq12, cq19]; rfl) | (rw [cq5, cq12]; rfl) | (rw [cq5]; rfl)) ?_
      refine j_iload_n C dX6_leastChange_27 rfl ?_
      refine j_iload_n C dX6_leastChange_28 rfl ?_
      refine j_icmp_eq C dX6_leastChange_29 (tgt := 36) (by decide) (fun cq29 => ?_) (fun cq29 => ?_)
      · refine j_iconst C dX6_leastChange_36 (v := nI 0) (by decide) ?_
        refine j_top C (bI (!decide (i = j))) (by rw [decide_eq_true cq29]; rfl) ?_
        refine j_callV C cm_goes dX6_leastChange_37 rfl (by decide) (T := TX6) rfl gX6_leastChange_X6_goes rfl kd_X6_goes rfl rfl (Nat.le_of_ble_eq_true rfl) ⟨by decide, by decide⟩ ⟨Nat.zero_le _, Nat.zero_le _⟩ (k_I ?_)
        refine j_if_eqB C dX6_leastChange_40 (tgt := 53) (by decide) (fun cq40 => ?_) (fun cq40 => absurd cq40 (by rw [hbad]; decide))
        refine j_iconst C dX6_leastChange_53 (v := nI 0) (by decide) ?_
        exact j_ireturn C hret dX6_leastChange_54 ⟨rfl, rfl⟩
      · refine j_iconst C dX6_leastChange_32 (v := nI 1) (by decide) ?_
        refine j_top C (bI (!decide (i = j))) (by rw [decide_eq_false cq29]; rfl) ?_
        refine j_goto C dX6_leastChange_33 (tgt := 37) (by decide) ?_
        refine j_callV C cm_goes dX6_leastChange_37 rfl (by decide) (T := TX6) rfl gX6_leastChange_X6_goes rfl kd_X6_goes rfl rfl (Nat.le_of_ble_eq_true rfl) ⟨by decide, by decide⟩ ⟨Nat.zero_le _, Nat.zero_le _⟩ (k_I ?_)
        refine j_if_eqB C dX6_leastChange_40 (tgt := 53) (by decide) (fun cq40 => ?_) (fun cq40 => absurd cq40 (by rw [hbad]; decide))
        refine j_iconst C dX6_leastChange_53 (v := nI 0) (by decide) ?_
        exact j_ireturn C hret dX6_leastChange_54 ⟨rfl, rfl⟩
    · refine j_iload_n C dX6_leastChange_15 rfl ?_
      refine j_callS C cm_isPot dX6_leastChange_16 gX6_leastChange_X6_isPot rfl ks_X6_isPot rfl rfl (Nat.le_of_ble_eq_true rfl) ⟨by decide, by decide⟩ ⟨Nat.zero_le _, Nat.zero_le _⟩ (k_I ?_)
      refine j_if_eqB C dX6_leastChange_19 (tgt := 26) (by decide) (fun cq19 => ?_) (fun cq19 => ?_)
      · refine j_iconst C dX6_leastChange_26 (v := nI 0) (by decide) ?_
        refine j_top C (bI (inI p (nI 0) (nI 3) && (inI i (nI 0) (nI 7) && inI j (nI 0) (nI 7)))) (by first | (rw [cq5, cq12, cq19]; rfl) | (rw [cq5, cq12]; rfl) | (rw [cq5]; rfl)) ?_
        refine j_iload_n C dX6_leastChange_27 rfl ?_
        refine j_iload_n C dX6_leastChange_28 rfl ?_
        refine j_icmp_eq C dX6_leastChange_29 (tgt := 36) (by decide) (fun cq29 => ?_) (fun cq29 => ?_)
        · refine j_iconst C dX6_leastChange_36 (v := nI 0) (by decide) ?_
          refine j_top C (bI (!decide (i = j))) (by rw [decide_eq_true cq29]; rfl) ?_
          refine j_callV C cm_goes dX6_leastChange_37 rfl (by decide) (T := TX6) rfl gX6_leastChange_X6_goes rfl kd_X6_goes rfl rfl (Nat.le_of_ble_eq_true rfl) ⟨by decide, by decide⟩ ⟨Nat.zero_le _, Nat.zero_le _⟩ (k_I ?_)
          refine j_if_eqB C dX6_leastChange_40 (tgt := 53) (by decide) (fun cq40 => ?_) (fun cq40 => absurd cq40 (by rw [hbad]; decide))
          refine j_iconst C dX6_leastChange_53 (v := nI 0) (by decide) ?_
          exact j_ireturn C hret dX6_leastChange_54 ⟨rfl, rfl⟩
        · refine j_iconst C dX6_leastChange_32 (v := nI 1) (by decide) ?_
          refine j_top C (bI (!decide (i = j))) (by rw [decide_eq_false cq29]; rfl) ?_
          refine j_goto C dX6_leastChange_33 (tgt := 37) (by decide) ?_
          refine j_callV C cm_goes dX6_leastChange_37 rfl (by decide) (T := TX6) rfl gX6_leastChange_X6_goes rfl kd_X6_goes rfl rfl (Nat.le_of_ble_eq_true rfl) ⟨by decide, by decide⟩ ⟨Nat.zero_le _, Nat.zero_le _⟩ (k_I ?_)
          refine j_if_eqB C dX6_leastChange_40 (tgt := 53) (by decide) (fun cq40 => ?_) (fun cq40 => absurd cq40 (by rw [hbad]; decide))
          refine j_iconst C dX6_leastChange_53 (v := nI 0) (by decide) ?_
          exact j_ireturn C hret dX6_leastChange_54 ⟨rfl, rfl⟩
      · refine j_iconst C dX6_leastChange_22 (v := nI 1) (by decide) ?_
        refine j_top C (bI (inI p (nI 0) (nI 3) && (inI i (nI 0) (nI 7) && inI j (nI 0) (nI 7)))) (by first | (rw [cq5, cq12, cq19]; rfl)) ?_
        refine j_goto C dX6_leastChange_23 (tgt := 27) (by decide) ?_
        refine j_iload_n C dX6_leastChange_27 rfl ?_
        refine j_iload_n C dX6_leastChange_28 rfl ?_
        refine j_icmp_eq C dX6_leastChange_29 (tgt := 36) (by decide) (fun cq29 => ?_) (fun cq29 => ?_)
        · refine j_iconst C dX6_leastChange_36 (v := nI 0) (by decide) ?_
          refine j_top C (bI (!decide (i = j))) (by rw [decide_eq_true cq29]; rfl) ?_
          refine j_callV C cm_goes dX6_leastChange_37 rfl (by decide) (T := TX6) rfl gX6_leastChange_X6_goes rfl kd_X6_goes rfl rfl (Nat.le_of_ble_eq_true rfl) ⟨by decide, by decide⟩ ⟨Nat.zero_le _, Nat.zero_le _⟩ (k_I ?_)
          refine j_if_eqB C dX6_leastChange_40 (tgt := 53) (by decide) (fun cq40 => ?_) (fun cq40 => absurd cq40 (by rw [hbad]; decide))
          refine j_iconst C dX6_leastChange_53 (v := nI 0) (by decide) ?_
          exact j_ireturn C hret dX6_leastChange_54 ⟨rfl, rfl⟩
        · refine j_iconst C dX6_leastChange_32 (v := nI 1) (by decide) ?_
          refine j_top C (bI (!decide (i = j))) (by rw [decide_eq_false cq29]; rfl) ?_
          refine j_goto C dX6_leastChange_33 (tgt := 37) (by decide) ?_
          refine j_callV C cm_goes dX6_leastChange_37 rfl (by decide) (T := TX6) rfl gX6_leastChange_X6_goes rfl kd_X6_goes rfl rfl (Nat.le_of_ble_eq_true rfl) ⟨by decide, by decide⟩ ⟨Nat.zero_le _, Nat.zero_le _⟩ (k_I ?_)
          refine j_if_eqB C dX6_leastChange_40 (tgt := 53) (by decide) (fun cq40 => ?_) (fun cq40 => absurd cq40 (by rw [hbad]; decide))
          refine j_iconst C dX6_leastChange_53 (v := nI 0) (by decide) ?_
          exact j_ireturn C hret dX6_leastChange_54 ⟨rfl, rfl⟩

set_option maxHeartbeats 4000000 in
set_option maxRecDepth 100000 in
theorem cf_fewest {l : Launch} {G : GG} {M : MM} {p k : Int32} (hbad : (inI p (nI 0) (nI 3) && inI k (nI 0) (nI 1)) = false) : Ct l G yX6_fewest wsX6_fewest 8 ([.ref (G.2.2 84), .int (p), .int (k)] : List Value) M (rI (nI 0) (setV M 84 5 (nI (thr (inI p (nI 0) (nI 3)) (inI k (nI 0) (nI 1)))))) := by
  refine Ct.of (cc := cX6_fewest) (maxL := 3) (ret := (some .int)) (lv := [(0, .ref (G.2.2 84)), (1, .int (p)), (2, .int (k))]) (by decide) rfl rfl (Nat.le_of_ble_eq_true rfl) ?_
  intro pg ev sg mm bl mt cd AZ C hret
  refine j_aload_n C dX6_fewest_0 rfl ?_
  refine j_iload_n C dX6_fewest_1 rfl ?_
  refine j_callS C cm_isPainter dX6_fewest_2 gX6_fewest_X6_isPainter rfl ks_X6_isPainter rfl rfl (Nat.le_of_ble_eq_true rfl) ⟨by decide, by decide⟩ ⟨Nat.zero_le _, Nat.zero_le _⟩ (k_I ?_)
  refine j_iload_n C dX6_fewest_5 rfl ?_
  refine j_iconst C dX6_fewest_6 (v := nI 0) (by decide) ?_
  refine j_iconst C dX6_fewest_7 (v := nI 1) (by decide) ?_
  refine j_callS C cm_in dX6_fewest_8 gX6_fewest_X6_in rfl ks_X6_in rfl rfl (Nat.le_of_ble_eq_true rfl) ⟨by decide, by decide⟩ ⟨Nat.zero_le _, Nat.zero_le _⟩ (k_I ?_)
  refine j_callV C cm_goes dX6_fewest_11 rfl (by decide) (T := TX6) rfl gX6_fewest_X6_goes rfl kd_X6_goes rfl rfl (Nat.le_of_ble_eq_true rfl) ⟨by decide, by decide⟩ ⟨Nat.zero_le _, Nat.zero_le _⟩ (k_I ?_)
  refine j_if_neB C dX6_fewest_14 (tgt := 19) (by decide) (fun cq14 => absurd cq14 (by rw [hbad]; decide)) (fun cq14 => ?_)
  refine j_iconst C dX6_fewest_17 (v := nI 0) (by decide) ?_
  exact j_ireturn C hret dX6_fewest_18 ⟨rfl, rfl⟩

set_option maxHeartbeats 4000000 in
set_option maxRecDepth 100000 in
theorem cf_goBack1 {l : Launch} {G : GG} {M : MM} {v : Int32} (hb : isS v = false) : Ct l G yX6_goBack wsX6_goBack 3 ([.ref (G.2.2 84), .int (v)] : List Value) M (rI (nI 0) (setV M 84 5 (nI 1))) := by
  refine Ct.of (cc := cX6_goBack) (maxL := 2) (ret := (some .int)) (lv := [(0, .ref (G.2.2 84)), (1, .int (v))]) (by decide) rfl rfl (Nat.le_of_ble_eq_true rfl) ?_
  intro pg ev sg mm bl mt cd AZ C hret
  refine j_aload_n C dX6_goBack_0 rfl ?_
  refine j_iload_n C dX6_goBack_1 rfl ?_
  refine j_callS C cm_isSlot dX6_goBack_2 gX6_goBack_X6_isSlot rfl ks_X6_isSlot rfl rfl (Nat.le_of_ble_eq_true rfl) ⟨by decide, by decide⟩ ⟨Nat.zero_le _, Nat.zero_le _⟩ (k_I ?_)
  refine j_top C (bI false) (congrArg bI hb) ?_
  refine j_iload_n C dX6_goBack_5 rfl ?_
  refine j_callS C cm_isSlot dX6_goBack_6 gX6_goBack_X6_isSlot rfl ks_X6_isSlot rfl rfl (Nat.le_of_ble_eq_true rfl) ⟨by decide, by decide⟩ ⟨Nat.zero_le _, Nat.zero_le _⟩ (k_I ?_)
  refine j_top C (bI false) (congrArg bI hb) ?_
  refine j_if_eqB C dX6_goBack_9 (tgt := 25) (by decide) (fun cq9 => ?_) (fun cq9 => absurd cq9 (by decide))
  refine j_iconst C dX6_goBack_25 (v := nI 0) (by decide) ?_
  refine j_top C (bI false) rfl ?_
  refine j_callV C cm_goes dX6_goBack_26 rfl (by decide) (T := TX6) rfl gX6_goBack_X6_goes rfl kd_X6_goes rfl rfl (Nat.le_of_ble_eq_true rfl) ⟨by decide, by decide⟩ ⟨Nat.zero_le _, Nat.zero_le _⟩ (k_I ?_)
  refine j_if_neB C dX6_goBack_29 (tgt := 34) (by decide) (fun cq29 => absurd cq29 (by decide)) (fun cq29 => ?_)
  refine j_iconst C dX6_goBack_32 (v := nI 0) (by decide) ?_
  exact j_ireturn C hret dX6_goBack_33 ⟨rfl, rfl⟩

set_option maxHeartbeats 4000000 in
set_option maxRecDepth 100000 in
theorem cf_goBack2 {l : Launch} {G : GG} {M : MM} {S : SS} (hX : Xm M S) {sl : Nat} (hs : sl < 2) (hf : S.2.2.2.2.1 sl = false) : Ct l G yX6_goBack wsX6_goBack 3 ([.ref (G.2.2 84), .int (nI sl)] : List Value) M (rI (nI 0) (setV M 84 5 (nI 2))) := by
  refine Ct.of (cc := cX6_goBack) (maxL := 2) (ret := (some .int)) (lv := [(0, .ref (G.2.2 84)), (1, .int (nI sl))]) (by decide) rfl rfl (Nat.le_of_ble_eq_true rfl) ?_
  intro pg ev sg mm bl mt cd AZ C hret
  refine j_aload_n C dX6_goBack_0 rfl ?_
  refine j_iload_n C dX6_goBack_1 rfl ?_
  refine j_callS C cm_isSlot dX6_goBack_2 gX6_goBack_X6_isSlot rfl ks_X6_isSlot rfl rfl (Nat.le_of_ble_eq_true rfl) ⟨by decide, by decide⟩ ⟨Nat.zero_le _, Nat.zero_le _⟩ (k_I ?_)
  refine j_top C (bI true) (congrArg bI (isS_ok hs)) ?_
  refine j_iload_n C dX6_goBack_5 rfl ?_
  refine j_callS C cm_isSlot dX6_goBack_6 gX6_goBack_X6_isSlot rfl ks_X6_isSlot rfl rfl (Nat.le_of_ble_eq_true rfl) ⟨by decide, by decide⟩ ⟨Nat.zero_le _, Nat.zero_le _⟩ (k_I ?_)
  refine j_top C (bI true) (congrArg bI (isS_ok hs)) ?_
  refine j_if_eqB C dX6_goBack_9 (tgt := 25) (by decide) (fun cq9 => absurd cq9 (by decide)) (fun cq9 => ?_)
  refine j_aload_n C dX6_goBack_12 rfl ?_
  refine j_getf C dX6_goBack_13 rfl (by decide) (T := TX6) rfl in_X6_goBack_X6 (k := 2) (by decide) fl_X6_goBack_13 rfl rfl ?_
  refine j_iload_n C dX6_goBack_16 rfl ?_
  refine j_zaldN C dX6_goBack_17 rfl (by omega) (by decide) ?_
  refine j_top C _ ((hX.2.2.1 sl hs).trans (congrArg bI hf)) ?_
  refine j_if_eqB C dX6_goBack_18 (tgt := 25) (by decide) (fun cq18 => ?_) (fun cq18 => absurd cq18 (by decide))
  refine j_iconst C dX6_goBack_25 (v := nI 0) (by decide) ?_
  refine j_top C (bI false) rfl ?_
  refine j_callV C cm_goes dX6_goBack_26 rfl (by decide) (T := TX6) rfl gX6_goBack_X6_goes rfl kd_X6_goes rfl rfl (Nat.le_of_ble_eq_true rfl) ⟨by decide, by decide⟩ ⟨Nat.zero_le _, Nat.zero_le _⟩ (k_I ?_)
  refine j_if_neB C dX6_goBack_29 (tgt := 34) (by decide) (fun cq29 => absurd cq29 (by decide)) (fun cq29 => ?_)
  refine j_iconst C dX6_goBack_32 (v := nI 0) (by decide) ?_
  exact j_ireturn C hret dX6_goBack_33 ⟨rfl, rfl⟩

set_option maxHeartbeats 4000000 in
set_option maxRecDepth 100000 in
theorem cf_undo {l : Launch} {G : GG} {M : MM} {S : SS} (hX : Xm M S) (h0 : S.2.1 = 0) : Ct l G yX6_undo wsX6_undo 3 ([.ref (G.2.2 84)] : List Value) M (rI (nI 0) (setV M 84 5 (nI 1))) := by
  refine Ct.of (cc := cX6_undo) (maxL := 1) (ret := (some .int)) (lv := [(0, .ref (G.2.2 84))]) (by decide) rfl rfl (Nat.le_of_ble_eq_true rfl) ?_
  intro pg ev sg mm bl mt cd AZ C hret
  refine j_aload_n C dX6_undo_0 rfl ?_
  refine j_aload_n C dX6_undo_1 rfl ?_
  refine j_getf C dX6_undo_2 rfl (by decide) (T := TX6) rfl in_X6_undo_X6 (k := 1) (by decide) fl_X6_undo_35 rfl rfl ?_
  refine j_top C (_) hX.2.1.2.1 ?_
  refine j_if_leN C dX6_undo_5 (tgt := 12) (by decide) (by omega) (fun cq5 => ?_) (fun cq5 => absurd cq5 (by omega))
  refine j_iconst C dX6_undo_12 (v := nI 0) (by decide) ?_
  refine j_top C (bI false) rfl ?_
  refine j_iconst C dX6_undo_13 (v := nI 1) (by decide) ?_
  refine j_top C (bI true) rfl ?_
  refine j_callV C cm_goes dX6_undo_14 rfl (by decide) (T := TX6) rfl gX6_undo_X6_goes rfl kd_X6_goes rfl rfl (Nat.le_of_ble_eq_true rfl) ⟨by decide, by decide⟩ ⟨Nat.zero_le _, Nat.zero_le _⟩ (k_I ?_)
  refine j_if_neB C dX6_undo_17 (tgt := 22) (by decide) (fun cq17 => absurd cq17 (by decide)) (fun cq17 => ?_)
  refine j_iconst C dX6_undo_20 (v := nI 0) (by decide) ?_
  exact j_ireturn C hret dX6_undo_21 ⟨rfl, rfl⟩

theorem tpT_mk {n : Nat} {f : Nat → Nat} (h1 : n % 6 = 5) (h2 : erT n f = n) : tpT n f = true := by
  unfold tpT; rw [decide_eq_true h1, decide_eq_true h2]; rfl
theorem erT_le {n : Nat} {f : Nat → Nat} : erT n f ≤ n := by
  have q : ∀ (m i : Nat), ffF m (okT f) i ≤ i + m := by
    intro m; induction m with
    | zero => intro i; exact Nat.le_refl i
    | succ m ih =>
      intro i
      show (bif okT f i then ffF m (okT f) (i + 1) else i) ≤ _
      cases okT f i
      · exact Nat.le_add_right i _
      · have := ih (i + 1); show ffF m (okT f) (i + 1) ≤ _; omega
  have := q n 0
  unfold erT; omega

set_option maxHeartbeats 4000000 in
set_option maxRecDepth 100000 in
theorem cf_load {l : Launch} {G : GG} {M : MM} {S : SS} (hX : Xm M S) (ht : tpT S.2.2.2.2.2.1 S.2.2.2.2.2.2 = false) : Ct l G yX6_load wsX6_load 7 ([.ref (G.2.2 84)] : List Value) M (rI (nI 0) (setV M 84 5 (nI 1))) := by
  have hn60 := hX.2.2.2.2.1
  have he := erT_le (n := S.2.2.2.2.2.1) (f := S.2.2.2.2.2.2)
  refine Ct.of (cc := cX6_load) (maxL := 4) (ret := (some .int)) (lv := [(0, .ref (G.2.2 84))]) (by decide) rfl rfl (Nat.le_of_ble_eq_true rfl) ?_
  intro pg ev sg mm bl mt cd AZ C hret
  refine j_aload_n C dX6_load_0 rfl ?_
  refine j_aload_n C dX6_load_1 rfl ?_
  refine j_getf C dX6_load_2 rfl (by decide) (T := TX6) rfl in_X6_load_X6 (k := 4) (by decide) fl_X6_load_127 rfl rfl ?_
  refine j_top C (_) hX.2.2.2.2.2.1 ?_
  refine j_bipush C dX6_load_5 (v := nI 6) (by decide) ?_
  refine j_iremN C dX6_load_7 (by omega) (by decide) (by decide) ?_
  refine j_iconst C dX6_load_8 (v := nI 5) (by decide) ?_
  refine j_icmp_neN C dX6_load_9 (tgt := 27) (by decide) (by omega) (by omega) (fun cq9 => ?_) (fun cq9 => ?_)
  · refine j_iconst C dX6_load_27 (v := nI 0) (by decide) ?_
    refine j_top C (bI false) rfl ?_
    refine j_iconst C dX6_load_28 (v := nI 1) (by decide) ?_
    refine j_top C (bI true) rfl ?_
    refine j_callV C cm_goes dX6_load_29 rfl (by decide) (T := TX6) rfl gX6_load_X6_goes rfl kd_X6_goes rfl rfl (Nat.le_of_ble_eq_true rfl) ⟨by decide, by decide⟩ ⟨Nat.zero_le _, Nat.zero_le _⟩ (k_I ?_)
    refine j_if_neB C dX6_load_32 (tgt := 37) (by decide) (fun cq32 => absurd cq32 (by decide)) (fun cq32 => ?_)
    refine j_iconst C dX6_load_35 (v := nI 0) (by decide) ?_
    exact j_ireturn C hret dX6_load_36 ⟨rfl, rfl⟩
  · refine j_aload_n C dX6_load_12 rfl ?_
    refine j_callV C (cm_error hX.2.2.2.2) dX6_load_13 rfl (by decide) (T := TX6) rfl gX6_load_X6_error rfl kd_X6_error rfl rfl (Nat.le_of_ble_eq_true rfl) ⟨by decide, by decide⟩ ⟨Nat.zero_le _, Nat.zero_le _⟩ (k_I ?_)
    refine j_aload_n C dX6_load_16 rfl ?_
    refine j_getf C dX6_load_17 rfl (by decide) (T := TX6) rfl in_X6_load_X6 (k := 4) (by decide) fl_X6_load_127 rfl rfl ?_
    refine j_top C (_) hX.2.2.2.2.2.1 ?_
    refine j_icmp_neN C dX6_load_20 (tgt := 27) (by decide) (by omega) (by omega) (fun cq20 => ?_) (fun cq20 => ?_)
    · refine j_iconst C dX6_load_27 (v := nI 0) (by decide) ?_
      refine j_top C (bI false) rfl ?_
      refine j_iconst C dX6_load_28 (v := nI 1) (by decide) ?_
      refine j_top C (bI true) rfl ?_
      refine j_callV C cm_goes dX6_load_29 rfl (by decide) (T := TX6) rfl gX6_load_X6_goes rfl kd_X6_goes rfl rfl (Nat.le_of_ble_eq_true rfl) ⟨by decide, by decide⟩ ⟨Nat.zero_le _, Nat.zero_le _⟩ (k_I ?_)
      refine j_if_neB C dX6_load_32 (tgt := 37) (by decide) (fun cq32 => absurd cq32 (by decide)) (fun cq32 => ?_)
      refine j_iconst C dX6_load_35 (v := nI 0) (by decide) ?_
      exact j_ireturn C hret dX6_load_36 ⟨rfl, rfl⟩
    · exact absurd (tpT_mk (by omega) (by omega)) (by rw [ht]; decide)
