set_option maxRecDepth 20000 in
theorem kd_X5_bestPainter : yX5_bestPainter.cls = RX5 ∧ yX5_bestPainter.cls ≠ "java/lang/invoke/MethodHandle" ∧ yX5_bestPainter.cls ≠ "java/lang/invoke/VarHandle" ∧ (parseMethodDescriptor yX5_bestPainter.desc).map (fun d => d.parameters.length) = some 0 := by decide +kernel
set_option maxRecDepth 20000 in
theorem kd_X5_apartShare : yX5_apartShare.cls = RX5 ∧ yX5_apartShare.cls ≠ "java/lang/invoke/MethodHandle" ∧ yX5_apartShare.cls ≠ "java/lang/invoke/VarHandle" ∧ (parseMethodDescriptor yX5_apartShare.desc).map (fun d => d.parameters.length) = some 0 := by decide +kernel
set_option maxRecDepth 20000 in
theorem cst_L_hangs_140 : Cond.constantDouble RL 140 (4637581716284768256) ∈ wsL_hangs := by decide +kernel
set_option maxRecDepth 20000 in
theorem ks_L_seen : yL_seen.cls ≠ "java/lang/invoke/MethodHandle" ∧ yL_seen.cls ≠ "java/lang/invoke/VarHandle" ∧ (parseMethodDescriptor yL_seen.desc).map (fun d => d.parameters.length) = some 3 := by decide +kernel
theorem sumP_p (σ : Sg) (p : Nat) (hp : p ≤ 4) : sumP σ p ≤ 256 := by
  have h0 := pr_le σ 0
  have h1 := pr_le σ 1
  have h2 := pr_le σ 2
  have h3 := pr_le σ 3
  rcases (show p = 0 ∨ p = 1 ∨ p = 2 ∨ p = 3 ∨ p = 4 by omega) with rfl | rfl | rfl | rfl | rfl
  · exact Nat.zero_le _
  · show 0 + pr σ 0 ≤ 256; omega
  · show 0 + pr σ 0 + pr σ 1 ≤ 256; omega
  · show 0 + pr σ 0 + pr σ 1 + pr σ 2 ≤ 256; omega
  · exact sumP_le σ

set_option maxHeartbeats 4000000 in
set_option maxRecDepth 100000 in
theorem cl_hangs {l : Launch} {G : GG} {M : MM} {σ : Sg} {n : Nat} {L : List Sg} (h : Xs M σ n L) : Ch l G yL_hangs wsL_hangs 13 ([.ref (G.2.2 72)] : List Value) M (rI (bI true) M) := by
  have hW := h.wf
  have h44 := hW.2.2.1
  refine Ch.of (cc := cL_hangs) (maxL := 14) (ret := (some .boolean)) (lv := [(0, .ref (G.2.2 72))]) (by decide) rfl rfl (Nat.le_of_ble_eq_true rfl) ?_
  intro pg ev sg mm bl mt cd AZ C hret
  refine j_iconst C dL_hangs_0 (v := nI 0) (by decide) ?_
  refine j_istore_n C dL_hangs_1 (by decide) ?_
  refine j_lv (lv2 := [(0, _), (1, _)]) rfl ?_
  refine j_iconst C dL_hangs_2 (v := nI 0) (by decide) ?_
  refine j_istore_n C dL_hangs_3 (by decide) ?_
  refine j_lv (lv2 := [(0, _), (1, _), (2, _)]) rfl ?_
  refine j_iconst C dL_hangs_4 (v := -1) (by decide) ?_
  refine j_istore_n C dL_hangs_5 (by decide) ?_
  refine j_lv (lv2 := [(0, _), (1, _), (2, _), (3, _)]) rfl ?_
  refine j_bipush C dL_hangs_6 (v := nI 64) (by decide) ?_
  refine j_newT C dL_hangs_8 (by decide +kernel) ⟨by decide, by decide⟩ (fun h0 hh => ?_)
  refine jt_astore C dL_hangs_10 (by decide) ?_
  refine jt_lv (lv2 := [(0, _), (1, _), (2, _), (3, _), (4, _)]) rfl ?_
  refine jt_iconst C dL_hangs_12 (v := nI 0) (by decide) ?_
  refine jt_istore C dL_hangs_13 (by decide) ?_
  refine jt_lv (lv2 := [(0, _), (1, _), (2, _), (3, _), (4, _), (5, _)]) rfl ?_
  have L15 : ∀ p, p ≤ 4 → JT G h0 pg l ev (rmH 13) sg mm ([.ref (G.2.2 72)] : List Value).toArray bl mt cd AZ 14 (MQ bl (QQ G (rI (bI true) M) AZ) ([.ref (G.2.2 72)] : List Value).toArray sg 1 64 AZ) (0 + 1) (0 + 64) 15 [(0, .ref (G.2.2 72)), (1, .int (nI (srN σ p))), (2, .int (nI (2 * sumP σ p))), (3, .int (oI (moF σ p))), (4, .ref h0), (5, .int (nI p))] [] (M) (TT σ p 0) := by
    refine dnto ?_
    intro p hp15 ih15
    refine jt_iload C dL_hangs_15 rfl ?_
    refine jt_iconst C dL_hangs_17 (v := nI 4) (by decide) ?_
    refine jt_icmp_geN C dL_hangs_18 (tgt := 549) (by decide) (by omega) (by omega) (fun cq18 => ?_) (fun cq18 => ?_)
    · have ep : p = 4 := by omega
      subst ep
      refine jt_iconst C dL_hangs_549 (v := nI 0) (by decide) ?_
      refine jt_istore C dL_hangs_550 (by decide) ?_
      refine jt_lv (lv2 := [(0, _), (1, _), (2, _), (3, _), (4, _), (5, _)]) rfl ?_
      refine jt_iconst C dL_hangs_552 (v := nI 0) (by decide) ?_
      refine jt_istore C dL_hangs_553 (by decide) ?_
      refine jt_lv (lv2 := [(0, _), (1, _), (2, _), (3, _), (4, _), (5, _), (6, _)]) rfl ?_
      refine jt_iconst C dL_hangs_555 (v := nI 0) (by decide) ?_
      refine jt_istore C dL_hangs_556 (by decide) ?_
      refine jt_lv (lv2 := [(0, _), (1, _), (2, _), (3, _), (4, _), (5, _), (6, _), (7, _)]) rfl ?_
      have L558 : ∀ i, i ≤ 8 → JT G h0 pg l ev (rmH 13) sg mm ([.ref (G.2.2 72)] : List Value).toArray bl mt cd AZ 14 (MQ bl (QQ G (rI (bI true) M) AZ) ([.ref (G.2.2 72)] : List Value).toArray sg 1 64 AZ) (0 + 1) (0 + 64) 558 [(0, .ref (G.2.2 72)), (1, .int (nI (srN σ 4))), (2, .int (nI (2 * sumP σ 4))), (3, .int (oI (moF σ 4))), (4, .ref h0), (5, .int (nI (cntN i (fun p => !decide (lab σ p = 0))))), (6, .int (nI (blO σ (8 * i)))), (7, .int (nI i))] [] (M) (TT σ 4 0) := by
        refine dnto ?_
        intro i hi558 ih558
        refine jt_iload C dL_hangs_558 rfl ?_
        refine jt_bipush C dL_hangs_560 (v := nI 8) (by decide) ?_
        refine jt_icmp_geN C dL_hangs_562 (tgt := 631) (by decide) (by omega) (by omega) (fun cq562 => ?_) (fun cq562 => ?_)
        · have ei : i = 8 := by omega
          subst ei
          have hlm := lm_le hW
          have hpp : popc (lmask σ) ≤ 8 := cntN_le _ 8
          have hld : labd σ ≤ 8 := cntN_le _ 8
          rw [show cntN 8 (fun p => !decide (lab σ p = 0)) = labd σ from rfl, show blO σ (8 * 8) = nob σ from blO_64]
          refine jt_aload_n C dL_hangs_631 rfl ?_
          refine jt_iconst C dL_hangs_632 (v := nI 0) (by decide) ?_
          refine jt_callSH C hh (x_ct0 h) dL_hangs_633 gL_hangs_L_count rfl ks_L_count rfl rfl (Nat.le_of_ble_eq_true rfl) ⟨by decide, by decide⟩ ⟨by decide, by decide⟩ (tk_I ?_)
          refine jt_iload C dL_hangs_636 rfl ?_
          refine jt_icmp_ne C dL_hangs_638 (tgt := 715) (by decide) (fun q9 => (q9 (rfl)).elim) (fun _ => ?_)
          refine jt_aload_n C dL_hangs_641 rfl ?_
          refine jt_iconst C dL_hangs_642 (v := nI 1) (by decide) ?_
          refine jt_callSH C hh (x_ct1 h) dL_hangs_643 gL_hangs_L_count rfl ks_L_count rfl rfl (Nat.le_of_ble_eq_true rfl) ⟨by decide, by decide⟩ ⟨by decide, by decide⟩ (tk_I ?_)
          refine jt_iload C dL_hangs_646 rfl ?_
          refine jt_icmp_gtN C dL_hangs_648 (tgt := 715) (by decide) (by omega) (by omega) (fun cq648 => absurd cq648 (Nat.not_lt.mpr hlm.1)) (fun cq648 => ?_)
          refine jt_cut 664 (decide (0 < popc (lmask σ))) ?_ (fun K664 => ?_)
          · refine jt_cut 674 (decide (0 < labd σ)) ?_ (fun K674 => ?_)
            · refine jt_icmp_ne C dL_hangs_674 (tgt := 715) (by decide) (fun q9 => (q9 (congrArg bI (decide_eq_decide.mpr hlm.2))).elim) (fun _ => ?_)
              refine jt_aload_n C dL_hangs_677 rfl ?_
              refine jt_iconst C dL_hangs_678 (v := nI 3) (by decide) ?_
              refine jt_callSH C hh (x_ct3 h) dL_hangs_679 gL_hangs_L_count rfl ks_L_count rfl rfl (Nat.le_of_ble_eq_true rfl) ⟨by decide, by decide⟩ ⟨by decide, by decide⟩ (tk_I ?_)
              refine jt_iload C dL_hangs_682 rfl ?_
              refine jt_icmp_ne C dL_hangs_684 (tgt := 715) (by decide) (fun q9 => (q9 (rfl)).elim) (fun _ => ?_)
              refine jt_aload_n C dL_hangs_687 rfl ?_
              refine jt_iconst C dL_hangs_688 (v := nI 4) (by decide) ?_
              refine jt_callSH C hh (x_ct4 h) dL_hangs_689 gL_hangs_L_count rfl ks_L_count rfl rfl (Nat.le_of_ble_eq_true rfl) ⟨by decide, by decide⟩ ⟨by decide, by decide⟩ (tk_I ?_)
              refine jt_iload_n C dL_hangs_692 rfl ?_
              refine jt_icmp_ne C dL_hangs_693 (tgt := 715) (by decide) (fun q9 => (q9 (rfl)).elim) (fun _ => ?_)
              refine jt_aload_n C dL_hangs_696 rfl ?_
              refine jt_aload_n C dL_hangs_697 rfl ?_
              refine jt_callV C hh (x_best h) dL_hangs_698 rfl (by decide) (T9 := TX5) rfl gL_hangs_X5_bestPainter rfl kd_X5_bestPainter rfl rfl (Nat.le_of_ble_eq_true rfl) ⟨by decide, by decide⟩ ⟨by decide, by decide⟩ (tk_I ?_)
              refine jt_iconst C dL_hangs_701 (v := nI 3) (by decide) ?_
              refine jt_callSH C hh (x_prs h (bst_lt σ)) dL_hangs_702 gL_hangs_L_painterOf rfl ks_L_painterOf rfl rfl (Nat.le_of_ble_eq_true rfl) ⟨by decide, by decide⟩ ⟨by decide, by decide⟩ (tk_I ?_)
              refine jt_iload_n C dL_hangs_705 rfl ?_
              refine jt_top C (nI (2 * pr σ (bst σ))) (by rw [mo_best]; rfl) ?_
              refine jt_iconst C dL_hangs_706 (v := nI 2) (by decide) ?_
              refine jt_idivN C dL_hangs_707 (by have := pr_le σ (bst σ); omega) (by decide) (by decide) ?_
              refine jt_top C (nI (pr σ (bst σ))) (congrArg nI (by omega)) ?_
              refine jt_icmp_ne C dL_hangs_708 (tgt := 715) (by decide) (fun q9 => (q9 (rfl)).elim) (fun _ => ?_)
              refine jt_iconst C dL_hangs_711 (v := nI 1) (by decide) ?_
              refine jt_goto C dL_hangs_712 (tgt := 716) (by decide) ?_
              refine jt_istore C dL_hangs_716 (by decide) ?_
              refine jt_lv (lv2 := [(0, _), (1, _), (2, _), (3, _), (4, _), (5, _), (6, _), (7, _)]) rfl ?_
              refine jt_iload C dL_hangs_718 rfl ?_
              refine jt_if_eqN C dL_hangs_720 (tgt := 743) (by decide) (by omega) (fun cq720 => absurd cq720 (by decide)) (fun cq720 => ?_)
              refine jt_aload_n C dL_hangs_723 rfl ?_
              refine jt_callV C hh (x_shr h) dL_hangs_724 rfl (by decide) (T9 := TX5) rfl gL_hangs_X5_apartShare rfl kd_X5_apartShare rfl rfl (Nat.le_of_ble_eq_true rfl) ⟨by decide, by decide⟩ ⟨by decide, by decide⟩ (tk_D ?_)
              refine jt_iload_n C dL_hangs_727 rfl ?_
              refine jt_iconst C dL_hangs_728 (v := nI 2) (by decide) ?_
              refine jt_idivN C dL_hangs_729 (by have := sumP_le σ; omega) (by decide) (by decide) ?_
              refine jt_top C (nI (sumP σ 4)) (congrArg nI (by omega)) ?_
              refine jt_i2d C dL_hangs_730 ?_
              refine jt_ldc2d C dL_hangs_731 cst_L_hangs_140 ?_
              refine jt_ddiv C dL_hangs_734 (share_nan (sumP_le σ)) ?_
              refine jt_dcmp C dL_hangs_735 ?_
              refine jt_top C (nI 0) (share_cmp (sumP_le σ)) ?_
              refine jt_if_neN C dL_hangs_736 (tgt := 743) (by decide) (by omega) (fun cq736 => absurd cq736 (by decide)) (fun cq736 => ?_)
              refine jt_iconst C dL_hangs_739 (v := nI 1) (by decide) ?_
              refine jt_goto C dL_hangs_740 (tgt := 744) (by decide) ?_
              refine jt_top C (bI true) rfl ?_
              exact jt_zreturn C hret dL_hangs_744 ⟨rfl, rfl⟩
            · refine jt_iload C dL_hangs_664 rfl ?_
              refine jt_if_leN C dL_hangs_666 (tgt := 673) (by decide) (by omega) (fun cq666 => ?_) (fun cq666 => ?_)
              · refine jt_iconst C dL_hangs_673 (v := nI 0) (by decide) ?_
                exact jt_join (decide (0 < labd σ)) K674 (bI_f (Nat.not_lt.mpr cq666))
              · refine jt_iconst C dL_hangs_669 (v := nI 1) (by decide) ?_
                refine jt_goto C dL_hangs_670 (tgt := 674) (by decide) ?_
                exact jt_join (decide (0 < labd σ)) K674 (bI_t cq666)
          · refine jt_aload_n C dL_hangs_651 rfl ?_
            refine jt_iconst C dL_hangs_652 (v := nI 1) (by decide) ?_
            refine jt_callSH C hh (x_ct1 h) dL_hangs_653 gL_hangs_L_count rfl ks_L_count rfl rfl (Nat.le_of_ble_eq_true rfl) ⟨by decide, by decide⟩ ⟨by decide, by decide⟩ (tk_I ?_)
            refine jt_if_leN C dL_hangs_656 (tgt := 663) (by decide) (by omega) (fun cq656 => ?_) (fun cq656 => ?_)
            · refine jt_iconst C dL_hangs_663 (v := nI 0) (by decide) ?_
              exact jt_join (decide (0 < popc (lmask σ))) K664 (bI_f (Nat.not_lt.mpr cq656))
            · refine jt_iconst C dL_hangs_659 (v := nI 1) (by decide) ?_
              refine jt_goto C dL_hangs_660 (tgt := 664) (by decide) ?_
              exact jt_join (decide (0 < popc (lmask σ))) K664 (bI_t cq656)
        · refine jt_iload C dL_hangs_565 rfl ?_
          have hlw := (hW.1 i cq562).2.2.2
          have hcl := cntN_le (fun p => !decide (lab σ p = 0)) i
          refine jt_cut 582 (!decide (σ (4 * i + 3) = 0)) ?_ (fun K582 => ?_)
          · refine jt_top C (nI (bif !decide (σ (4 * i + 3) = 0) then 1 else 0)) (bI_c _) ?_
            refine jt_iaddN C dL_hangs_582 ?_
            refine jt_top C (nI (cntN (i + 1) (fun p => !decide (lab σ p = 0)))) rfl ?_
            refine jt_istore C dL_hangs_583 (by decide) ?_
            refine jt_lv (lv2 := [(0, _), (1, _), (2, _), (3, _), (4, _), (5, _), (6, _), (7, _)]) rfl ?_
            refine jt_iconst C dL_hangs_585 (v := nI 0) (by decide) ?_
            refine jt_istore C dL_hangs_586 (by decide) ?_
            refine jt_lv (lv2 := [(0, _), (1, _), (2, _), (3, _), (4, _), (5, _), (6, _), (7, _), (8, _)]) rfl ?_
            have L588 : ∀ j, j ≤ i → JT G h0 pg l ev (rmH 13) sg mm ([.ref (G.2.2 72)] : List Value).toArray bl mt cd AZ 14 (MQ bl (QQ G (rI (bI true) M) AZ) ([.ref (G.2.2 72)] : List Value).toArray sg 1 64 AZ) (0 + 1) (0 + 64) 588 [(0, .ref (G.2.2 72)), (1, .int (nI (srN σ 4))), (2, .int (nI (2 * sumP σ 4))), (3, .int (oI (moF σ 4))), (4, .ref h0), (5, .int (nI (cntN (i + 1) (fun p => !decide (lab σ p = 0))))), (6, .int (nI (blO σ (8 * i + j)))), (7, .int (nI i)), (8, .int (nI j))] [] (M) (TT σ 4 0) := by
              refine dnto ?_
              intro j hj588 ih588
              refine jt_iload C dL_hangs_588 rfl ?_
              refine jt_iload C dL_hangs_590 rfl ?_
              refine jt_icmp_geN C dL_hangs_592 (tgt := 625) (by decide) (by omega) (by omega) (fun cq592 => ?_) (fun cq592 => ?_)
              · have ej : j = i := by omega
                subst ej
                refine jt_iincN C dL_hangs_625 rfl (by decide) ?_
                refine jt_goto C dL_hangs_628 (tgt := 558) (by decide) ?_
                rw [blO_e cq562]
                exact jt_pick [0, 1, 2, 3, 4, 5, 6, 7] (ih558 (by omega))
              · have hbl := cntN_le (blF σ) (8 * i + j)
                have hc4 := cntN_le (fun q => ap σ q i j) 4
                refine jt_iload C dL_hangs_595 rfl ?_
                refine jt_cut 616 (decide (tpm σ i j = 0)) ?_ (fun K616 => ?_)
                · refine jt_top C (nI (bif decide (tpm σ i j = 0) then 1 else 0)) (bI_c _) ?_
                  refine jt_iaddN C dL_hangs_616 ?_
                  refine jt_top C (nI (blO σ (8 * i + j + 1))) (congrArg nI (blO_s cq592 cq562)) ?_
                  refine jt_istore C dL_hangs_617 (by decide) ?_
                  refine jt_lv (lv2 := [(0, _), (1, _), (2, _), (3, _), (4, _), (5, _), (6, _), (7, _), (8, _)]) rfl ?_
                  refine jt_iincN C dL_hangs_619 rfl (by decide) ?_
                  refine jt_goto C dL_hangs_622 (tgt := 588) (by decide) ?_
                  exact ih588 (by omega)
                · refine jt_aload C dL_hangs_597 rfl ?_
                  refine jt_bipush C dL_hangs_599 (v := nI 8) (by decide) ?_
                  refine jt_iload C dL_hangs_601 rfl ?_
                  refine jt_imulN C dL_hangs_603 ?_
                  refine jt_iload C dL_hangs_604 rfl ?_
                  refine jt_iaddN C dL_hangs_606 ?_
                  refine jt_iald C dL_hangs_607 (by omega) ?_
                  refine jt_top C _ (TT_at cq562 (by omega) (Nat.zero_le _)) ?_
                  refine jt_if_neN C dL_hangs_608 (tgt := 615) (by decide) (by omega) (fun cq608 => ?_) (fun cq608 => ?_)
                  · refine jt_iconst C dL_hangs_615 (v := nI 0) (by decide) ?_
                    exact jt_join (decide (tpm σ i j = 0)) K616 (bI_f (fun q => cq608 (told0.mpr q)))
                  · refine jt_iconst C dL_hangs_611 (v := nI 1) (by decide) ?_
                    refine jt_goto C dL_hangs_612 (tgt := 616) (by decide) ?_
                    exact jt_join (decide (tpm σ i j = 0)) K616 (bI_t (told0.mp cq608))
            exact L588 0 (by omega)
          · refine jt_aload_n C dL_hangs_567 rfl ?_
            refine jt_iload C dL_hangs_568 rfl ?_
            refine jt_iconst C dL_hangs_570 (v := nI 3) (by decide) ?_
            refine jt_callSH C hh (x_lab h cq562) dL_hangs_571 gL_hangs_L_potOf rfl ks_L_potOf rfl rfl (Nat.le_of_ble_eq_true rfl) ⟨by decide, by decide⟩ ⟨by decide, by decide⟩ (tk_I ?_)
            refine jt_if_geO C dL_hangs_574 (tgt := 581) (by decide) (by omega) (fun cq574 => ?_) (fun cq574 => ?_)
            · refine jt_iconst C dL_hangs_581 (v := nI 1) (by decide) ?_
              exact jt_join (!decide (σ (4 * i + 3) = 0)) K582 (by rw [decide_eq_false cq574]; rfl)
            · refine jt_iconst C dL_hangs_577 (v := nI 0) (by decide) ?_
              refine jt_goto C dL_hangs_578 (tgt := 582) (by decide) ?_
              exact jt_join (!decide (σ (4 * i + 3) = 0)) K582 (by rw [decide_eq_true cq574]; rfl)
      exact L558 0 (by omega)
    · have hp := cq18
      obtain ⟨hk1, hk2, hk3⟩ := hW.2.1 p hp
      have hmo := moF_le (σ := σ) p
      have hsr := srN_le (σ := σ) (p := p)
      refine jt_iconst C dL_hangs_21 (v := nI 0) (by decide) ?_
      refine jt_istore C dL_hangs_22 (by decide) ?_
      refine jt_lv (lv2 := [(0, _), (1, _), (2, _), (3, _), (4, _), (5, _), (6, _)]) rfl ?_
      refine jt_iconst C dL_hangs_24 (v := nI 0) (by decide) ?_
      refine jt_istore C dL_hangs_25 (by decide) ?_
      refine jt_lv (lv2 := [(0, _), (1, _), (2, _), (3, _), (4, _), (5, _), (6, _), (7, _)]) rfl ?_
      refine jt_aload_n C dL_hangs_27 rfl ?_
      refine jt_iload C dL_hangs_28 rfl ?_
      refine jt_iconst C dL_hangs_30 (v := nI 2) (by decide) ?_
      refine jt_callSH C hh (x_len h hp) dL_hangs_31 gL_hangs_L_painterOf rfl ks_L_painterOf rfl rfl (Nat.le_of_ble_eq_true rfl) ⟨by decide, by decide⟩ ⟨by decide, by decide⟩ (tk_I ?_)
      refine jt_istore C dL_hangs_34 (by decide) ?_
      refine jt_lv (lv2 := [(0, _), (1, _), (2, _), (3, _), (4, _), (5, _), (6, _), (7, _), (8, _)]) rfl ?_
      refine jt_iconst C dL_hangs_36 (v := nI 0) (by decide) ?_
      refine jt_istore C dL_hangs_37 (by decide) ?_
      refine jt_lv (lv2 := [(0, _), (1, _), (2, _), (3, _), (4, _), (5, _), (6, _), (7, _), (8, _), (9, _)]) rfl ?_
      have L39 : ∀ i, i ≤ 8 → JT G h0 pg l ev (rmH 13) sg mm ([.ref (G.2.2 72)] : List Value).toArray bl mt cd AZ 14 (MQ bl (QQ G (rI (bI true) M) AZ) ([.ref (G.2.2 72)] : List Value).toArray sg 1 64 AZ) (0 + 1) (0 + 64) 39 [(0, .ref (G.2.2 72)), (1, .int (nI (srN σ p))), (2, .int (nI (2 * sumP σ p))), (3, .int (oI (moF σ p))), (4, .ref h0), (5, .int (nI p)), (6, .int (nI (prO σ p (8 * i)))), (7, .int (nI (wrO σ p (8 * i)))), (8, .int (oI (σ (34 + 3 * p)))), (9, .int (nI i))] [] (M) (TT σ p (8 * i)) := by
        refine dnto ?_
        intro i hi39 ih39
        refine jt_iload C dL_hangs_39 rfl ?_
        refine jt_bipush C dL_hangs_41 (v := nI 8) (by decide) ?_
        refine jt_icmp_geN C dL_hangs_43 (tgt := 313) (by decide) (by omega) (by omega) (fun cq43 => ?_) (fun cq43 => ?_)
        · have ei : i = 8 := by omega
          subst ei
          refine jt_iconst C dL_hangs_313 (v := nI 0) (by decide) ?_
          refine jt_istore C dL_hangs_314 (by decide) ?_
          refine jt_lv (lv2 := [(0, _), (1, _), (2, _), (3, _), (4, _), (5, _), (6, _), (7, _), (8, _), (9, _)]) rfl ?_
          refine jt_iconst C dL_hangs_316 (v := nI 0) (by decide) ?_
          refine jt_istore C dL_hangs_317 (by decide) ?_
          refine jt_lv (lv2 := [(0, _), (1, _), (2, _), (3, _), (4, _), (5, _), (6, _), (7, _), (8, _), (9, _), (10, _)]) rfl ?_
          have L319 : ∀ c, c ≤ σ 44 → JT G h0 pg l ev (rmH 13) sg mm ([.ref (G.2.2 72)] : List Value).toArray bl mt cd AZ 14 (MQ bl (QQ G (rI (bI true) M) AZ) ([.ref (G.2.2 72)] : List Value).toArray sg 1 64 AZ) (0 + 1) (0 + 64) 319 [(0, .ref (G.2.2 72)), (1, .int (nI (srN σ p))), (2, .int (nI (2 * sumP σ p))), (3, .int (oI (moF σ p))), (4, .ref h0), (5, .int (nI p)), (6, .int (nI (prO σ p (64)))), (7, .int (nI (wrO σ p (64)))), (8, .int (oI (σ (34 + 3 * p)))), (9, .int (nI (cntN c (crF σ p)))), (10, .int (nI c))] [] (M) (TT σ p 64) := by
            refine dnto ?_
            intro c hc319 ih319
            refine jt_iload C dL_hangs_319 rfl ?_
            refine jt_aload_n C dL_hangs_321 rfl ?_
            refine jt_iconst C dL_hangs_322 (v := nI 2) (by decide) ?_
            refine jt_callSH C hh (x_ct2 h) dL_hangs_323 gL_hangs_L_count rfl ks_L_count rfl rfl (Nat.le_of_ble_eq_true rfl) ⟨by decide, by decide⟩ ⟨by decide, by decide⟩ (tk_I ?_)
            refine jt_icmp_geN C dL_hangs_326 (tgt := 409) (by decide) (by omega) (by omega) (fun cq326 => ?_) (fun cq326 => ?_)
            · have ec : c = σ 44 := by omega
              subst ec
              have hprl := pr_le σ p
              have hwl := wrO_le (σ := σ) (p := p) 64
              have hpl := prO_le (σ := σ) (p := p) 64
              rw [show wrO σ p 64 = 2 * wrg σ p from wrO_64]
              rw [show wrO σ p 64 = 2 * wrg σ p from wrO_64] at hwl
              have hsum := sumP_p σ p (by omega)
              refine jt_iload_n C dL_hangs_409 rfl ?_
              refine jt_cut 420 (decide (wrg σ p = 0)) ?_ (fun K420 => ?_)
              · refine jt_top C (nI (bif decide (wrg σ p = 0) then 1 else 0)) (bI_c _) ?_
                refine jt_iaddN C dL_hangs_420 ?_
                refine jt_top C (nI (srN σ (p + 1))) rfl ?_
                refine jt_istore_n C dL_hangs_421 (by decide) ?_
                refine jt_lv (lv2 := [(0, _), (1, _), (2, _), (3, _), (4, _), (5, _), (6, _), (7, _), (8, _), (9, _), (10, _)]) rfl ?_
                refine jt_iload_n C dL_hangs_422 rfl ?_
                refine jt_iload C dL_hangs_423 rfl ?_
                refine jt_iaddN C dL_hangs_425 ?_
                refine jt_top C (nI (2 * sumP σ (p + 1))) (congrArg nI sum_s) ?_
                refine jt_istore_n C dL_hangs_426 (by decide) ?_
                refine jt_lv (lv2 := [(0, _), (1, _), (2, _), (3, _), (4, _), (5, _), (6, _), (7, _), (8, _), (9, _), (10, _)]) rfl ?_
                refine jt_cutI 439 (oI (moF σ (p + 1))) ?_ (fun K439 => ?_)
                · refine jt_istore_n C dL_hangs_439 (by decide) ?_
                  refine jt_lv (lv2 := [(0, _), (1, _), (2, _), (3, _), (4, _), (5, _), (6, _), (7, _), (8, _), (9, _), (10, _)]) rfl ?_
                  refine jt_aload_n C dL_hangs_440 rfl ?_
                  refine jt_iload C dL_hangs_441 rfl ?_
                  refine jt_iconst C dL_hangs_443 (v := nI 3) (by decide) ?_
                  refine jt_callSH C hh (x_prs h hp) dL_hangs_444 gL_hangs_L_painterOf rfl ks_L_painterOf rfl rfl (Nat.le_of_ble_eq_true rfl) ⟨by decide, by decide⟩ ⟨by decide, by decide⟩ (tk_I ?_)
                  refine jt_iload C dL_hangs_447 rfl ?_
                  refine jt_iconst C dL_hangs_449 (v := nI 2) (by decide) ?_
                  refine jt_idivN C dL_hangs_450 (by omega) (by decide) (by decide) ?_
                  refine jt_top C (nI (pr σ p)) (congrArg nI (by rw [prO_64]; omega)) ?_
                  refine jt_icmp_ne C dL_hangs_451 (tgt := 541) (by decide) (fun q9 => (q9 (rfl)).elim) (fun _ => ?_)
                  refine jt_aload_n C dL_hangs_454 rfl ?_
                  refine jt_iload C dL_hangs_455 rfl ?_
                  refine jt_iconst C dL_hangs_457 (v := nI 4) (by decide) ?_
                  refine jt_callSH C hh (x_wrg h hp) dL_hangs_458 gL_hangs_L_painterOf rfl ks_L_painterOf rfl rfl (Nat.le_of_ble_eq_true rfl) ⟨by decide, by decide⟩ ⟨by decide, by decide⟩ (tk_I ?_)
                  refine jt_iload C dL_hangs_461 rfl ?_
                  refine jt_iconst C dL_hangs_463 (v := nI 2) (by decide) ?_
                  refine jt_idivN C dL_hangs_464 (by omega) (by decide) (by decide) ?_
                  refine jt_top C (nI (wrg σ p)) (congrArg nI (by omega)) ?_
                  refine jt_icmp_ne C dL_hangs_465 (tgt := 541) (by decide) (fun q9 => (q9 (rfl)).elim) (fun _ => ?_)
                  refine jt_aload_n C dL_hangs_468 rfl ?_
                  refine jt_iload C dL_hangs_469 rfl ?_
                  refine jt_iconst C dL_hangs_471 (v := nI 5) (by decide) ?_
                  refine jt_callSH C hh (x_rgt h hp) dL_hangs_472 gL_hangs_L_painterOf rfl ks_L_painterOf rfl rfl (Nat.le_of_ble_eq_true rfl) ⟨by decide, by decide⟩ ⟨by decide, by decide⟩ (tk_I ?_)
                  refine jt_cut 485 (decide (wrg σ p = 0)) ?_ (fun K485 => ?_)
                  · refine jt_icmp_ne C dL_hangs_485 (tgt := 541) (by decide) (fun q9 => (q9 (rfl)).elim) (fun _ => ?_)
                    refine jt_aload_n C dL_hangs_488 rfl ?_
                    refine jt_iload C dL_hangs_489 rfl ?_
                    refine jt_bipush C dL_hangs_491 (v := nI 6) (by decide) ?_
                    refine jt_callSH C hh (x_crd h hp) dL_hangs_493 gL_hangs_L_painterOf rfl ks_L_painterOf rfl rfl (Nat.le_of_ble_eq_true rfl) ⟨by decide, by decide⟩ ⟨by decide, by decide⟩ (tk_I ?_)
                    refine jt_iload C dL_hangs_496 rfl ?_
                    refine jt_icmp_ne C dL_hangs_498 (tgt := 541) (by decide) (fun q9 => (q9 (rfl)).elim) (fun _ => ?_)
                    refine jt_aload_n C dL_hangs_501 rfl ?_
                    refine jt_iload C dL_hangs_502 rfl ?_
                    refine jt_cutI 516 (nI (if σ (34 + 3 * p) = 0 then p else σ (34 + 3 * p) - 1)) ?_ (fun K516 => ?_)
                    · refine jt_callSH C hh (x_ifb h hp (lend_lt hW hp)) dL_hangs_516 gL_hangs_L_ifBorrowed rfl ks_L_ifBorrowed rfl rfl (Nat.le_of_ble_eq_true rfl) ⟨by decide, by decide⟩ ⟨by decide, by decide⟩ (tk_I ?_)
                      refine jt_top C (nI (pr σ p)) (congrArg nI lend_pr) ?_
                      refine jt_iload C dL_hangs_519 rfl ?_
                      refine jt_iconst C dL_hangs_521 (v := nI 2) (by decide) ?_
                      refine jt_idivN C dL_hangs_522 (by omega) (by decide) (by decide) ?_
                      refine jt_top C (nI (pr σ p)) (congrArg nI (by rw [prO_64]; omega)) ?_
                      refine jt_icmp_ne C dL_hangs_523 (tgt := 541) (by decide) (fun q9 => (q9 (rfl)).elim) (fun _ => ?_)
                      refine jt_aload_n C dL_hangs_526 rfl ?_
                      refine jt_iload C dL_hangs_527 rfl ?_
                      refine jt_iload C dL_hangs_529 rfl ?_
                      refine jt_callSH C hh (x_ifb h hp hp) dL_hangs_531 gL_hangs_L_ifBorrowed rfl ks_L_ifBorrowed rfl rfl (Nat.le_of_ble_eq_true rfl) ⟨by decide, by decide⟩ ⟨by decide, by decide⟩ (tk_I ?_)
                      refine jt_iload C dL_hangs_534 rfl ?_
                      refine jt_iconst C dL_hangs_536 (v := nI 2) (by decide) ?_
                      refine jt_idivN C dL_hangs_537 (by omega) (by decide) (by decide) ?_
                      refine jt_top C (nI (pr σ p)) (congrArg nI (by rw [prO_64]; omega)) ?_
                      refine jt_icmp_leN C dL_hangs_538 (tgt := 543) (by decide) (by have := own_pr (σ := σ) (p := p); omega) (by have := own_pr (σ := σ) (p := p); omega) (fun cq538 => ?_) (fun cq538 => absurd cq538 (Nat.not_lt.mpr own_pr))
                      refine jt_iincN C dL_hangs_543 rfl (by decide) ?_
                      refine jt_goto C dL_hangs_546 (tgt := 15) (by decide) ?_
                      refine jt_T TT_n ?_
                      exact jt_pick [0, 1, 2, 3, 4, 5] (ih15 (by omega))
                    · refine jt_iload C dL_hangs_504 rfl ?_
                      refine jt_if_geO C dL_hangs_506 (tgt := 514) (by decide) (by omega) (fun cq506 => ?_) (fun cq506 => ?_)
                      · refine jt_iload C dL_hangs_514 rfl ?_
                        refine jt_top C (nI (if σ (34 + 3 * p) = 0 then p else σ (34 + 3 * p) - 1)) (by rw [if_neg cq506]; exact oI_pos cq506) ?_
                        exact K516
                      · refine jt_iload C dL_hangs_509 rfl ?_
                        refine jt_goto C dL_hangs_511 (tgt := 516) (by decide) ?_
                        refine jt_top C (nI (if σ (34 + 3 * p) = 0 then p else σ (34 + 3 * p) - 1)) (by rw [if_pos cq506]) ?_
                        exact K516
                  · refine jt_iload C dL_hangs_475 rfl ?_
                    refine jt_if_neN C dL_hangs_477 (tgt := 484) (by decide) (by omega) (fun cq477 => ?_) (fun cq477 => ?_)
                    · refine jt_iconst C dL_hangs_484 (v := nI 0) (by decide) ?_
                      exact jt_join (decide (wrg σ p = 0)) K485 (bI_f (by omega))
                    · refine jt_iconst C dL_hangs_480 (v := nI 1) (by decide) ?_
                      refine jt_goto C dL_hangs_481 (tgt := 485) (by decide) ?_
                      exact jt_join (decide (wrg σ p = 0)) K485 (bI_t (by omega))
                · refine jt_iload C dL_hangs_427 rfl ?_
                  refine jt_iload_n C dL_hangs_429 rfl ?_
                  refine jt_icmp_le C dL_hangs_430 (tgt := 438) (by decide) (fun cq430 => ?_) (fun cq430 => ?_)
                  · refine jt_iload_n C dL_hangs_438 rfl ?_
                    refine jt_top C (oI (moF σ (p + 1))) (mo_a cq430) ?_
                    exact K439
                  · refine jt_iload C dL_hangs_433 rfl ?_
                    refine jt_goto C dL_hangs_435 (tgt := 439) (by decide) ?_
                    refine jt_top C (oI (moF σ (p + 1))) (mo_b cq430) ?_
                    exact K439
              · refine jt_iload C dL_hangs_410 rfl ?_
                refine jt_if_neN C dL_hangs_412 (tgt := 419) (by decide) (by omega) (fun cq412 => ?_) (fun cq412 => ?_)
                · refine jt_iconst C dL_hangs_419 (v := nI 0) (by decide) ?_
                  exact jt_join (decide (wrg σ p = 0)) K420 (bI_f (by omega))
                · refine jt_iconst C dL_hangs_415 (v := nI 1) (by decide) ?_
                  refine jt_goto C dL_hangs_416 (tgt := 420) (by decide) ?_
                  exact jt_join (decide (wrg σ p = 0)) K420 (bI_t (by omega))
            · obtain ⟨hcf, hcg⟩ := hW.2.2.2 c (by omega)
              have hcc := cntN_le (crF σ p) c
              refine jt_cut 358 (ap σ p (σ (45 + 2 * c)) (σ (46 + 2 * c))) ?_ (fun K358 => ?_)
              · refine jt_istore C dL_hangs_358 (by decide) ?_
                refine jt_lv (lv2 := [(0, _), (1, _), (2, _), (3, _), (4, _), (5, _), (6, _), (7, _), (8, _), (9, _), (10, _), (11, _)]) rfl ?_
                refine jt_iload C dL_hangs_360 rfl ?_
                refine jt_cut 372 (ap σ p (σ (45 + 2 * c)) (σ (46 + 2 * c))) ?_ (fun K372 => ?_)
                · refine jt_top C (nI (bif ap σ p (σ (45 + 2 * c)) (σ (46 + 2 * c)) then 1 else 0)) (bI_c _) ?_
                  refine jt_iaddN C dL_hangs_372 ?_
                  refine jt_top C (nI (cntN (c + 1) (crF σ p))) rfl ?_
                  refine jt_istore C dL_hangs_373 (by decide) ?_
                  refine jt_lv (lv2 := [(0, _), (1, _), (2, _), (3, _), (4, _), (5, _), (6, _), (7, _), (8, _), (9, _), (10, _), (11, _)]) rfl ?_
                  refine jt_iload C dL_hangs_375 rfl ?_
                  refine jt_cut 398 (ap σ p (σ (45 + 2 * c)) (σ (46 + 2 * c))) ?_ (fun K398 => ?_)
                  · refine jt_icmp_eq C dL_hangs_398 (tgt := 403) (by decide) (fun _ => ?_) (fun q9 => (q9 (rfl)).elim)
                    refine jt_iincN C dL_hangs_403 rfl (by decide) ?_
                    refine jt_goto C dL_hangs_406 (tgt := 319) (by decide) ?_
                    exact jt_pick [0, 1, 2, 3, 4, 5, 6, 7, 8, 9, 10] (ih319 (by omega))
                  · refine jt_aload_n C dL_hangs_377 rfl ?_
                    refine jt_iload C dL_hangs_378 rfl ?_
                    refine jt_iconst C dL_hangs_380 (v := nI 2) (by decide) ?_
                    refine jt_callSH C hh (x_chr h cq326) dL_hangs_381 gL_hangs_L_chartOf rfl ks_L_chartOf rfl rfl (Nat.le_of_ble_eq_true rfl) ⟨by decide, by decide⟩ ⟨by decide, by decide⟩ (tk_I ?_)
                    refine jt_iload C dL_hangs_384 rfl ?_
                    refine jt_ishr C dL_hangs_386 ?_
                    refine jt_iconst C dL_hangs_387 (v := nI 1) (by decide) ?_
                    refine jt_iand C dL_hangs_388 ?_
                    refine jt_top C (bI (ap σ p (σ (45 + 2 * c)) (σ (46 + 2 * c)))) (tpm_I hp) ?_
                    refine jt_iconst C dL_hangs_389 (v := nI 1) (by decide) ?_
                    refine jt_icmp_ne C dL_hangs_390 (tgt := 397) (by decide) (fun cq390 => ?_) (fun cq390 => ?_)
                    · refine jt_iconst C dL_hangs_397 (v := nI 0) (by decide) ?_
                      exact jt_join (ap σ p (σ (45 + 2 * c)) (σ (46 + 2 * c))) K398 (by rw [bI_n1 cq390]; rfl)
                    · refine jt_iconst C dL_hangs_393 (v := nI 1) (by decide) ?_
                      refine jt_goto C dL_hangs_394 (tgt := 398) (by decide) ?_
                      exact jt_join (ap σ p (σ (45 + 2 * c)) (σ (46 + 2 * c))) K398 (by rw [bI_1.mp cq390]; rfl)
                · refine jt_iload C dL_hangs_362 rfl ?_
                  refine jt_if_eqB C dL_hangs_364 (tgt := 371) (by decide) (fun cq364 => ?_) (fun cq364 => ?_)
                  · refine jt_iconst C dL_hangs_371 (v := nI 0) (by decide) ?_
                    exact jt_join (ap σ p (σ (45 + 2 * c)) (σ (46 + 2 * c))) K372 (by rw [cq364]; rfl)
                  · refine jt_iconst C dL_hangs_367 (v := nI 1) (by decide) ?_
                    refine jt_goto C dL_hangs_368 (tgt := 372) (by decide) ?_
                    exact jt_join (ap σ p (σ (45 + 2 * c)) (σ (46 + 2 * c))) K372 (by rw [cq364]; rfl)
              · refine jt_aload_n C dL_hangs_329 rfl ?_
                refine jt_iload C dL_hangs_330 rfl ?_
                refine jt_aload_n C dL_hangs_332 rfl ?_
                refine jt_iload C dL_hangs_333 rfl ?_
                refine jt_iconst C dL_hangs_335 (v := nI 0) (by decide) ?_
                refine jt_callSH C hh (x_chf h cq326) dL_hangs_336 gL_hangs_L_chartOf rfl ks_L_chartOf rfl rfl (Nat.le_of_ble_eq_true rfl) ⟨by decide, by decide⟩ ⟨by decide, by decide⟩ (tk_I ?_)
                refine jt_aload_n C dL_hangs_339 rfl ?_
                refine jt_iload C dL_hangs_340 rfl ?_
                refine jt_iconst C dL_hangs_342 (v := nI 1) (by decide) ?_
                refine jt_callSH C hh (x_chg h cq326) dL_hangs_343 gL_hangs_L_chartOf rfl ks_L_chartOf rfl rfl (Nat.le_of_ble_eq_true rfl) ⟨by decide, by decide⟩ ⟨by decide, by decide⟩ (tk_I ?_)
                refine jt_callSH C hh (x_ap h hp (by omega) (by omega)) dL_hangs_346 gL_hangs_L_apart rfl ks_L_apart rfl rfl (Nat.le_of_ble_eq_true rfl) ⟨by decide, by decide⟩ ⟨by decide, by decide⟩ (tk_I ?_)
                refine jt_iconst C dL_hangs_349 (v := nI 1) (by decide) ?_
                refine jt_icmp_ne C dL_hangs_350 (tgt := 357) (by decide) (fun cq350 => ?_) (fun cq350 => ?_)
                · refine jt_iconst C dL_hangs_357 (v := nI 0) (by decide) ?_
                  exact jt_join (ap σ p (σ (45 + 2 * c)) (σ (46 + 2 * c))) K358 (by rw [bI_n1 cq350]; rfl)
                · refine jt_iconst C dL_hangs_353 (v := nI 1) (by decide) ?_
                  refine jt_goto C dL_hangs_354 (tgt := 358) (by decide) ?_
                  exact jt_join (ap σ p (σ (45 + 2 * c)) (σ (46 + 2 * c))) K358 (by rw [bI_1.mp cq350]; rfl)
          exact L319 0 (by omega)
        · have hi := cq43
          refine jt_iconst C dL_hangs_46 (v := nI 0) (by decide) ?_
          refine jt_istore C dL_hangs_47 (by decide) ?_
          refine jt_lv (lv2 := [(0, _), (1, _), (2, _), (3, _), (4, _), (5, _), (6, _), (7, _), (8, _), (9, _), (10, _)]) rfl ?_
          have L49 : ∀ j, j ≤ 8 → JT G h0 pg l ev (rmH 13) sg mm ([.ref (G.2.2 72)] : List Value).toArray bl mt cd AZ 14 (MQ bl (QQ G (rI (bI true) M) AZ) ([.ref (G.2.2 72)] : List Value).toArray sg 1 64 AZ) (0 + 1) (0 + 64) 49 [(0, .ref (G.2.2 72)), (1, .int (nI (srN σ p))), (2, .int (nI (2 * sumP σ p))), (3, .int (oI (moF σ p))), (4, .ref h0), (5, .int (nI p)), (6, .int (nI (prO σ p (8 * i + j)))), (7, .int (nI (wrO σ p (8 * i + j)))), (8, .int (oI (σ (34 + 3 * p)))), (9, .int (nI i)), (10, .int (nI j))] [] (M) (TT σ p (8 * i + j)) := by
            refine dnto ?_
            intro j hj49 ih49
            refine jt_iload C dL_hangs_49 rfl ?_
            refine jt_bipush C dL_hangs_51 (v := nI 8) (by decide) ?_
            refine jt_icmp_geN C dL_hangs_53 (tgt := 307) (by decide) (by omega) (by omega) (fun cq53 => ?_) (fun cq53 => ?_)
            · have ej : j = 8 := by omega
              subst ej
              refine jt_iincN C dL_hangs_307 rfl (by decide) ?_
              refine jt_goto C dL_hangs_310 (tgt := 39) (by decide) ?_
              exact jt_pick [0, 1, 2, 3, 4, 5, 6, 7, 8, 9] (ih39 (by omega))
            · have hj := cq53
              have hdd := DD_le hW (q := p) hi hj
              have hdl := DD_le hW (q := σ (34 + 3 * p) - 1) hi hj
              have hpo := prO_le (σ := σ) (p := p) (8 * i + j)
              have hwo := wrO_le (σ := σ) (p := p) (8 * i + j)
              have hcp := cntN_le (fun q => ap σ q i j) p
              have ht1 := tom_lt (σ := σ) (i := i)
              refine jt_cut 75 (ap σ p i j) ?_ (fun K75 => ?_)
              · refine jt_istore C dL_hangs_75 (by decide) ?_
                refine jt_lv (lv2 := [(0, _), (1, _), (2, _), (3, _), (4, _), (5, _), (6, _), (7, _), (8, _), (9, _), (10, _), (11, _)]) rfl ?_
                refine jt_cut 111 (decide (σ (33 + 3 * p) < DD σ p i j)) ?_ (fun K111 => ?_)
                · refine jt_istore C dL_hangs_111 (by decide) ?_
                  refine jt_lv (lv2 := [(0, _), (1, _), (2, _), (3, _), (4, _), (5, _), (6, _), (7, _), (8, _), (9, _), (10, _), (11, _), (12, _)]) rfl ?_
                  refine jt_aload C dL_hangs_113 rfl ?_
                  refine jt_bipush C dL_hangs_115 (v := nI 8) (by decide) ?_
                  refine jt_iload C dL_hangs_117 rfl ?_
                  refine jt_imulN C dL_hangs_119 ?_
                  refine jt_iload C dL_hangs_120 rfl ?_
                  refine jt_iaddN C dL_hangs_122 ?_
                  refine jt_dup2 C dL_hangs_123 rfl rfl ?_
                  refine jt_iald C dL_hangs_124 (by omega) ?_
                  refine jt_top C _ (TT_at hi hj (Nat.le_refl _)) ?_
                  refine jt_cut 135 (ap σ p i j) ?_ (fun K135 => ?_)
                  · refine jt_top C (nI (bif ap σ p i j then 1 else 0)) (bI_c _) ?_
                    refine jt_iaddN C dL_hangs_135 ?_
                    refine jt_iast C hh dL_hangs_136 (by omega) ?_
                    refine jt_T (TT_s hi hj) ?_
                    refine jt_iload C dL_hangs_137 rfl ?_
                    refine jt_cut 149 (ap σ p i j) ?_ (fun K149 => ?_)
                    · refine jt_top C (nI (bif ap σ p i j then 1 else 0)) (bI_c _) ?_
                      refine jt_iaddN C dL_hangs_149 ?_
                      refine jt_top C (nI (prO σ p (8 * i + j + 1))) (congrArg nI (prO_s hj)) ?_
                      refine jt_istore C dL_hangs_150 (by decide) ?_
                      refine jt_lv (lv2 := [(0, _), (1, _), (2, _), (3, _), (4, _), (5, _), (6, _), (7, _), (8, _), (9, _), (10, _), (11, _), (12, _)]) rfl ?_
                      refine jt_iload C dL_hangs_152 rfl ?_
                      refine jt_cut 191 (wrB σ p i j) ?_ (fun K191 => ?_)
                      · refine jt_top C (nI (bif wrB σ p i j then 1 else 0)) (bI_c _) ?_
                        refine jt_iaddN C dL_hangs_191 ?_
                        refine jt_top C (nI (wrO σ p (8 * i + j + 1))) (congrArg nI (wrO_s hj)) ?_
                        refine jt_istore C dL_hangs_192 (by decide) ?_
                        refine jt_lv (lv2 := [(0, _), (1, _), (2, _), (3, _), (4, _), (5, _), (6, _), (7, _), (8, _), (9, _), (10, _), (11, _), (12, _)]) rfl ?_
                        refine jt_cut 233 (!decide (σ (34 + 3 * p) = 0) && decide (σ (33 + 3 * p) < DD σ (σ (34 + 3 * p) - 1) i j)) ?_ (fun K233 => ?_)
                        · refine jt_istore C dL_hangs_233 (by decide) ?_
                          refine jt_lv (lv2 := [(0, _), (1, _), (2, _), (3, _), (4, _), (5, _), (6, _), (7, _), (8, _), (9, _), (10, _), (11, _), (12, _), (13, _)]) rfl ?_
                          refine jt_iload C dL_hangs_235 rfl ?_
                          refine jt_cut 252 (decide (σ (33 + 3 * p) < DD σ p i j) || (!decide (σ (34 + 3 * p) = 0) && decide (σ (33 + 3 * p) < DD σ (σ (34 + 3 * p) - 1) i j))) ?_ (fun K252 => ?_)
                          · refine jt_icmp_ne C dL_hangs_252 (tgt := 299) (by decide) (fun q9 => (q9 (congrArg bI ap_own)).elim) (fun _ => ?_)
                            refine jt_iload C dL_hangs_255 rfl ?_
                            refine jt_cut 276 (ap σ p j i) ?_ (fun K276 => ?_)
                            · refine jt_icmp_ne C dL_hangs_276 (tgt := 299) (by decide) (fun q9 => (q9 (congrArg bI (ap_sym σ p i j))).elim) (fun _ => ?_)
                              refine jt_iload C dL_hangs_279 rfl ?_
                              refine jt_if_eqB C dL_hangs_281 (tgt := 301) (by decide) (fun cq281 => ?_) (fun cq281 => ?_)
                              · refine jt_iincN C dL_hangs_301 rfl (by decide) ?_
                                refine jt_goto C dL_hangs_304 (tgt := 49) (by decide) ?_
                                exact jt_pick [0, 1, 2, 3, 4, 5, 6, 7, 8, 9, 10] (ih49 (by omega))
                              · refine jt_aload_n C dL_hangs_284 rfl ?_
                                refine jt_iload C dL_hangs_285 rfl ?_
                                refine jt_iconst C dL_hangs_287 (v := nI 4) (by decide) ?_
                                refine jt_callSH C hh (x_tel h hi) dL_hangs_288 gL_hangs_L_potOf rfl ks_L_potOf rfl rfl (Nat.le_of_ble_eq_true rfl) ⟨by decide, by decide⟩ ⟨by decide, by decide⟩ (tk_I ?_)
                                refine jt_iload C dL_hangs_291 rfl ?_
                                refine jt_ishr C dL_hangs_293 ?_
                                refine jt_iconst C dL_hangs_294 (v := nI 1) (by decide) ?_
                                refine jt_iand C dL_hangs_295 ?_
                                refine jt_top C (bI (bit (tom σ i) p)) (bit_I ht1 (by omega)) ?_
                                refine jt_if_neB C dL_hangs_296 (tgt := 301) (by decide) (fun cq296 => ?_) (fun cq296 => absurd cq296 (by rw [tom_bit hp hj cq281]; decide))
                                refine jt_iincN C dL_hangs_301 rfl (by decide) ?_
                                refine jt_goto C dL_hangs_304 (tgt := 49) (by decide) ?_
                                exact jt_pick [0, 1, 2, 3, 4, 5, 6, 7, 8, 9, 10] (ih49 (by omega))
                            · refine jt_aload_n C dL_hangs_257 rfl ?_
                              refine jt_iload C dL_hangs_258 rfl ?_
                              refine jt_iload C dL_hangs_260 rfl ?_
                              refine jt_iload C dL_hangs_262 rfl ?_
                              refine jt_callSH C hh (x_ap h hp hj hi) dL_hangs_264 gL_hangs_L_apart rfl ks_L_apart rfl rfl (Nat.le_of_ble_eq_true rfl) ⟨by decide, by decide⟩ ⟨by decide, by decide⟩ (tk_I ?_)
                              refine jt_iconst C dL_hangs_267 (v := nI 1) (by decide) ?_
                              refine jt_icmp_ne C dL_hangs_268 (tgt := 275) (by decide) (fun cq268 => ?_) (fun cq268 => ?_)
                              · refine jt_iconst C dL_hangs_275 (v := nI 0) (by decide) ?_
                                exact jt_join (ap σ p j i) K276 (by rw [bI_n1 cq268]; rfl)
                              · refine jt_iconst C dL_hangs_271 (v := nI 1) (by decide) ?_
                                refine jt_goto C dL_hangs_272 (tgt := 276) (by decide) ?_
                                exact jt_join (ap σ p j i) K276 (by rw [bI_1.mp cq268]; rfl)
                          · refine jt_iload C dL_hangs_237 rfl ?_
                            refine jt_if_neB C dL_hangs_239 (tgt := 247) (by decide) (fun cq239 => ?_) (fun cq239 => ?_)
                            · refine jt_iconst C dL_hangs_247 (v := nI 1) (by decide) ?_
                              refine jt_goto C dL_hangs_248 (tgt := 252) (by decide) ?_
                              exact jt_join (decide (σ (33 + 3 * p) < DD σ p i j) || (!decide (σ (34 + 3 * p) = 0) && decide (σ (33 + 3 * p) < DD σ (σ (34 + 3 * p) - 1) i j))) K252 (by rw [show (decide (σ (33 + 3 * p) < DD σ p i j)) = true from cq239]; rfl)
                            · refine jt_iload C dL_hangs_242 rfl ?_
                              refine jt_if_eqB C dL_hangs_244 (tgt := 251) (by decide) (fun cq244 => ?_) (fun cq244 => ?_)
                              · refine jt_iconst C dL_hangs_251 (v := nI 0) (by decide) ?_
                                exact jt_join (decide (σ (33 + 3 * p) < DD σ p i j) || (!decide (σ (34 + 3 * p) = 0) && decide (σ (33 + 3 * p) < DD σ (σ (34 + 3 * p) - 1) i j))) K252 (by rw [show (decide (σ (33 + 3 * p) < DD σ p i j)) = false from cq239, show (!decide (σ (34 + 3 * p) = 0) && decide (σ (33 + 3 * p) < DD σ (σ (34 + 3 * p) - 1) i j)) = false from cq244]; rfl)
                              · refine jt_iconst C dL_hangs_247 (v := nI 1) (by decide) ?_
                                refine jt_goto C dL_hangs_248 (tgt := 252) (by decide) ?_
                                exact jt_join (decide (σ (33 + 3 * p) < DD σ p i j) || (!decide (σ (34 + 3 * p) = 0) && decide (σ (33 + 3 * p) < DD σ (σ (34 + 3 * p) - 1) i j))) K252 (by rw [show (decide (σ (33 + 3 * p) < DD σ p i j)) = false from cq239, show (!decide (σ (34 + 3 * p) = 0) && decide (σ (33 + 3 * p) < DD σ (σ (34 + 3 * p) - 1) i j)) = true from cq244]; rfl)
                        · refine jt_iload C dL_hangs_194 rfl ?_
                          refine jt_if_ltO C dL_hangs_196 (tgt := 232) (by decide) (by omega) (fun cq196 => ?_) (fun cq196 => ?_)
                          · refine jt_iconst C dL_hangs_232 (v := nI 0) (by decide) ?_
                            exact jt_join (!decide (σ (34 + 3 * p) = 0) && decide (σ (33 + 3 * p) < DD σ (σ (34 + 3 * p) - 1) i j)) K233 (by rw [decide_eq_true cq196]; rfl)
                          · refine jt_aload_n C dL_hangs_199 rfl ?_
                            refine jt_iload C dL_hangs_200 rfl ?_
                            refine jt_top C (nI (σ (34 + 3 * p) - 1)) (oI_pos cq196) ?_
                            refine jt_iload C dL_hangs_202 rfl ?_
                            refine jt_callSH C hh (x_seen h (by omega) hi) dL_hangs_204 gL_hangs_L_seen rfl ks_L_seen rfl rfl (Nat.le_of_ble_eq_true rfl) ⟨by decide, by decide⟩ ⟨by decide, by decide⟩ (tk_I ?_)
                            refine jt_aload_n C dL_hangs_207 rfl ?_
                            refine jt_iload C dL_hangs_208 rfl ?_
                            refine jt_top C (nI (σ (34 + 3 * p) - 1)) (oI_pos cq196) ?_
                            refine jt_iload C dL_hangs_210 rfl ?_
                            refine jt_callSH C hh (x_seen h (by omega) hj) dL_hangs_212 gL_hangs_L_seen rfl ks_L_seen rfl rfl (Nat.le_of_ble_eq_true rfl) ⟨by decide, by decide⟩ ⟨by decide, by decide⟩ (tk_I ?_)
                            refine jt_callS C hh (x_far hW hi hj) dL_hangs_215 gL_hangs_L_far rfl ks_L_far rfl rfl (Nat.le_of_ble_eq_true rfl) ⟨by decide, by decide⟩ ⟨by decide, by decide⟩ (tk_I ?_)
                            refine jt_aload_n C dL_hangs_218 rfl ?_
                            refine jt_iload C dL_hangs_219 rfl ?_
                            refine jt_iconst C dL_hangs_221 (v := nI 1) (by decide) ?_
                            refine jt_callSH C hh (x_shp h hp) dL_hangs_222 gL_hangs_L_painterOf rfl ks_L_painterOf rfl rfl (Nat.le_of_ble_eq_true rfl) ⟨by decide, by decide⟩ ⟨by decide, by decide⟩ (tk_I ?_)
                            refine jt_icmp_leN C dL_hangs_225 (tgt := 232) (by decide) (by omega) (by omega) (fun cq225 => ?_) (fun cq225 => ?_)
                            · refine jt_iconst C dL_hangs_232 (v := nI 0) (by decide) ?_
                              exact jt_join (!decide (σ (34 + 3 * p) = 0) && decide (σ (33 + 3 * p) < DD σ (σ (34 + 3 * p) - 1) i j)) K233 (by rw [decide_eq_false cq196, decide_eq_false (show ¬ σ (33 + 3 * p) < DD σ (σ (34 + 3 * p) - 1) i j by omega)]; rfl)
                            · refine jt_iconst C dL_hangs_228 (v := nI 1) (by decide) ?_
                              refine jt_goto C dL_hangs_229 (tgt := 233) (by decide) ?_
                              exact jt_join (!decide (σ (34 + 3 * p) = 0) && decide (σ (33 + 3 * p) < DD σ (σ (34 + 3 * p) - 1) i j)) K233 (by rw [decide_eq_false cq196, decide_eq_true cq225]; rfl)
                      · refine jt_iload C dL_hangs_154 rfl ?_
                        refine jt_if_eqB C dL_hangs_156 (tgt := 190) (by decide) (fun cq156 => ?_) (fun cq156 => ?_)
                        · refine jt_iconst C dL_hangs_190 (v := nI 0) (by decide) ?_
                          exact jt_join (wrB σ p i j) K191 (by unfold wrB; rw [cq156]; rfl)
                        · refine jt_aload_n C dL_hangs_159 rfl ?_
                          refine jt_iload C dL_hangs_160 rfl ?_
                          refine jt_iconst C dL_hangs_162 (v := nI 3) (by decide) ?_
                          refine jt_callSH C hh (x_lab h hi) dL_hangs_163 gL_hangs_L_potOf rfl ks_L_potOf rfl rfl (Nat.le_of_ble_eq_true rfl) ⟨by decide, by decide⟩ ⟨by decide, by decide⟩ (tk_I ?_)
                          refine jt_if_ltO C dL_hangs_166 (tgt := 190) (by decide) (by have := (hW.1 i hi).2.2.2; omega) (fun cq166 => ?_) (fun cq166 => ?_)
                          · refine jt_iconst C dL_hangs_190 (v := nI 0) (by decide) ?_
                            exact jt_join (wrB σ p i j) K191 (by unfold wrB; rw [cq156, decide_eq_true cq166]; rfl)
                          · refine jt_aload_n C dL_hangs_169 rfl ?_
                            refine jt_iload C dL_hangs_170 rfl ?_
                            refine jt_iconst C dL_hangs_172 (v := nI 3) (by decide) ?_
                            refine jt_callSH C hh (x_lab h hi) dL_hangs_173 gL_hangs_L_potOf rfl ks_L_potOf rfl rfl (Nat.le_of_ble_eq_true rfl) ⟨by decide, by decide⟩ ⟨by decide, by decide⟩ (tk_I ?_)
                            refine jt_aload_n C dL_hangs_176 rfl ?_
                            refine jt_iload C dL_hangs_177 rfl ?_
                            refine jt_iconst C dL_hangs_179 (v := nI 3) (by decide) ?_
                            refine jt_callSH C hh (x_lab h hj) dL_hangs_180 gL_hangs_L_potOf rfl ks_L_potOf rfl rfl (Nat.le_of_ble_eq_true rfl) ⟨by decide, by decide⟩ ⟨by decide, by decide⟩ (tk_I ?_)
                            refine jt_icmp_neOO C dL_hangs_183 (tgt := 190) (by decide) (by have := (hW.1 i hi).2.2.2; have := (hW.1 j hj).2.2.2; omega) (by have := (hW.1 i hi).2.2.2; have := (hW.1 j hj).2.2.2; omega) (fun cq183 => ?_) (fun cq183 => ?_)
                            · refine jt_iconst C dL_hangs_190 (v := nI 0) (by decide) ?_
                              exact jt_join (wrB σ p i j) K191 (by unfold wrB; rw [cq156, decide_eq_false cq166, decide_eq_false cq183]; rfl)
                            · refine jt_iconst C dL_hangs_186 (v := nI 1) (by decide) ?_
                              refine jt_goto C dL_hangs_187 (tgt := 191) (by decide) ?_
                              exact jt_join (wrB σ p i j) K191 (by unfold wrB; rw [cq156, decide_eq_false cq166, decide_eq_true cq183]; rfl)
                    · refine jt_iload C dL_hangs_139 rfl ?_
                      refine jt_if_eqB C dL_hangs_141 (tgt := 148) (by decide) (fun cq141 => ?_) (fun cq141 => ?_)
                      · refine jt_iconst C dL_hangs_148 (v := nI 0) (by decide) ?_
                        exact jt_join (ap σ p i j) K149 (by rw [cq141]; rfl)
                      · refine jt_iconst C dL_hangs_144 (v := nI 1) (by decide) ?_
                        refine jt_goto C dL_hangs_145 (tgt := 149) (by decide) ?_
                        exact jt_join (ap σ p i j) K149 (by rw [cq141]; rfl)
                  · refine jt_iload C dL_hangs_125 rfl ?_
                    refine jt_if_eqB C dL_hangs_127 (tgt := 134) (by decide) (fun cq127 => ?_) (fun cq127 => ?_)
                    · refine jt_iconst C dL_hangs_134 (v := nI 0) (by decide) ?_
                      exact jt_join (ap σ p i j) K135 (by rw [cq127]; rfl)
                    · refine jt_iconst C dL_hangs_130 (v := nI 1) (by decide) ?_
                      refine jt_goto C dL_hangs_131 (tgt := 135) (by decide) ?_
                      exact jt_join (ap σ p i j) K135 (by rw [cq127]; rfl)
                · refine jt_aload_n C dL_hangs_77 rfl ?_
                  refine jt_iload C dL_hangs_78 rfl ?_
                  refine jt_iload C dL_hangs_80 rfl ?_
                  refine jt_callSH C hh (x_seen h hp hi) dL_hangs_82 gL_hangs_L_seen rfl ks_L_seen rfl rfl (Nat.le_of_ble_eq_true rfl) ⟨by decide, by decide⟩ ⟨by decide, by decide⟩ (tk_I ?_)
                  refine jt_aload_n C dL_hangs_85 rfl ?_
                  refine jt_iload C dL_hangs_86 rfl ?_
                  refine jt_iload C dL_hangs_88 rfl ?_
                  refine jt_callSH C hh (x_seen h hp hj) dL_hangs_90 gL_hangs_L_seen rfl ks_L_seen rfl rfl (Nat.le_of_ble_eq_true rfl) ⟨by decide, by decide⟩ ⟨by decide, by decide⟩ (tk_I ?_)
                  refine jt_callS C hh (x_far hW hi hj) dL_hangs_93 gL_hangs_L_far rfl ks_L_far rfl rfl (Nat.le_of_ble_eq_true rfl) ⟨by decide, by decide⟩ ⟨by decide, by decide⟩ (tk_I ?_)
                  refine jt_aload_n C dL_hangs_96 rfl ?_
                  refine jt_iload C dL_hangs_97 rfl ?_
                  refine jt_iconst C dL_hangs_99 (v := nI 1) (by decide) ?_
                  refine jt_callSH C hh (x_shp h hp) dL_hangs_100 gL_hangs_L_painterOf rfl ks_L_painterOf rfl rfl (Nat.le_of_ble_eq_true rfl) ⟨by decide, by decide⟩ ⟨by decide, by decide⟩ (tk_I ?_)
                  refine jt_icmp_leN C dL_hangs_103 (tgt := 110) (by decide) (by omega) (by omega) (fun cq103 => ?_) (fun cq103 => ?_)
                  · refine jt_iconst C dL_hangs_110 (v := nI 0) (by decide) ?_
                    exact jt_join (decide (σ (33 + 3 * p) < DD σ p i j)) K111 (bI_f (by omega))
                  · refine jt_iconst C dL_hangs_106 (v := nI 1) (by decide) ?_
                    refine jt_goto C dL_hangs_107 (tgt := 111) (by decide) ?_
                    exact jt_join (decide (σ (33 + 3 * p) < DD σ p i j)) K111 (bI_t (by omega))
              · refine jt_aload_n C dL_hangs_56 rfl ?_
                refine jt_iload C dL_hangs_57 rfl ?_
                refine jt_iload C dL_hangs_59 rfl ?_
                refine jt_iload C dL_hangs_61 rfl ?_
                refine jt_callSH C hh (x_ap h hp hi hj) dL_hangs_63 gL_hangs_L_apart rfl ks_L_apart rfl rfl (Nat.le_of_ble_eq_true rfl) ⟨by decide, by decide⟩ ⟨by decide, by decide⟩ (tk_I ?_)
                refine jt_iconst C dL_hangs_66 (v := nI 1) (by decide) ?_
                refine jt_icmp_ne C dL_hangs_67 (tgt := 74) (by decide) (fun cq67 => ?_) (fun cq67 => ?_)
                · refine jt_iconst C dL_hangs_74 (v := nI 0) (by decide) ?_
                  exact jt_join (ap σ p i j) K75 (by rw [bI_n1 cq67]; rfl)
                · refine jt_iconst C dL_hangs_70 (v := nI 1) (by decide) ?_
                  refine jt_goto C dL_hangs_71 (tgt := 75) (by decide) ?_
                  exact jt_join (ap σ p i j) K75 (by rw [bI_1.mp cq67]; rfl)
          exact L49 0 (by omega)
      exact L39 0 (by omega)
  refine jt_T (TT_0 (σ := σ)) ?_
  exact L15 0 (by omega)
