theorem jc_lv {G : GG} {p : Program} {l : Launch} {e : Env} {R : Room} {s : State} {m : MethodId} {args : Array Value} {below : List Frame} {meth : Method} {c : Code} {A : Nat → Prop} {nL : Nat} {Q : State → Prop} {k9 n9 pc : Nat} {lv lv2 : List (Nat × Value)} {st : List Value} {X P : va_W} (h : lv = lv2) (k : JC G p l e R s m args below meth c A nL Q k9 n9 pc lv2 st X P) : JC G p l e R s m args below meth c A nL Q k9 n9 pc lv st X P := by subst h; exact k

def mem9 (G : GG) (m : Nat → Nat) (b : Nat → Nat → Nat) : va_W := [(m 0, .inr (2, [.ref (m 1), .ref (m 2), .ref (m 3), .int (nI 0)])), (m 1, .inl (G.2.1 3, 2, refs (upN 2 (fun k => b (k + 1) 0)))), (m 2, .inl (G.2.1 1, 2, .inl fZ)), (m 3, .inl (G.2.1 3, 6, refs (upN 6 (fun k => b (k + 3) 0))))] ++ (((((((([] ++ bur G (b 1)) ++ bur G (b 2)) ++ bur G (b 3)) ++ bur G (b 4)) ++ bur G (b 5)) ++ bur G (b 6)) ++ bur G (b 7)) ++ bur G (b 8))

set_option maxHeartbeats 4000000 in
set_option maxRecDepth 100000 in
theorem ck_Memory {l : Launch} {G : GG} {q : Nat} : Cz l G yX3_init wsX3_init { frames := 4, cells := 67, slots := 410, locals := 100 } 67 410 [.ref q] [(q, .inr (2, [.null, .null, .null, .int (nI 0)]))] (fun v w => v = none ∧ ∃ (m : Nat → Nat) (b : Nat → Nat → Nat), m 0 = q ∧ w = mem9 G m b) := by
  refine Cz.of (cc := cX3_init) (maxL := 2) (ret := none) (lv := [(0, .ref q)]) (by decide) rfl rfl (Nat.le_of_ble_eq_true rfl) ?_
  intro pg ev sg mm bl mt cd AZ C hname hret
  refine jc_aload_n C dX3_init_0 rfl ?_
  refine jc_objInit C dX3_init_1 (by decide +kernel) (by decide +kernel) (by decide +kernel) (by decide) (Nat.le_of_ble_eq_true rfl) ?_
  refine jc_aload_n C dX3_init_4 rfl ?_
  refine jc_iconst C dX3_init_5 (v := nI 2) (by decide) ?_
  refine jc_newq C dX3_init_6 (by decide +kernel) (by decide) (by decide) ⟨Nat.le_of_ble_eq_true rfl, Nat.le_of_ble_eq_true rfl⟩ (fun m1 => ?_)
  refine jc_to (X2 := [(q, .inr (2, [.null, .null, .null, .int (nI 0)])), (m1, .inl (G.2.1 3, 2, refs (fun _ => none)))]) (P2 := []) rfl ?_
  refine jc_putF C hname (i := 0) dX3_init_9 rfl rfl (by decide +kernel) tyX3 tyX3_ok nmX3 (k := 0) (by decide) (by decide +kernel) rfl rfl (ty := tyX3 0) (by decide +kernel) rfl rfl (Nat.le_of_ble_eq_true rfl) ?_
  refine jc_to (X2 := [(q, .inr (2, [.ref m1, .null, .null, .int (nI 0)])), (m1, .inl (G.2.1 3, 2, refs (fun _ => none)))]) (P2 := []) rfl ?_
  refine jc_aload_n C dX3_init_12 rfl ?_
  refine jc_iconst C dX3_init_13 (v := nI 2) (by decide) ?_
  refine jc_newa C (a0 := (2, .inl fZ)) dX3_init_14 rfl (by decide +kernel) (t := 1) rfl (fun _ => rfl) (by decide) (by decide) ⟨Nat.le_of_ble_eq_true rfl, Nat.le_of_ble_eq_true rfl⟩ (fun m2 => ?_)
  refine jc_to (X2 := [(q, .inr (2, [.ref m1, .null, .null, .int (nI 0)])), (m1, .inl (G.2.1 3, 2, refs (fun _ => none))), (m2, .inl (G.2.1 1, 2, .inl fZ))]) (P2 := []) rfl ?_
  refine jc_putF C hname (i := 0) dX3_init_16 rfl rfl (by decide +kernel) tyX3 tyX3_ok nmX3 (k := 1) (by decide) (by decide +kernel) rfl rfl (ty := tyX3 1) (by decide +kernel) rfl rfl (Nat.le_of_ble_eq_true rfl) ?_
  refine jc_to (X2 := [(q, .inr (2, [.ref m1, .ref m2, .null, .int (nI 0)])), (m1, .inl (G.2.1 3, 2, refs (fun _ => none))), (m2, .inl (G.2.1 1, 2, .inl fZ))]) (P2 := []) rfl ?_
  refine jc_aload_n C dX3_init_19 rfl ?_
  refine jc_bipush C dX3_init_20 (v := nI 6) (by decide) ?_
  refine jc_newq C dX3_init_22 (by decide +kernel) (by decide) (by decide) ⟨Nat.le_of_ble_eq_true rfl, Nat.le_of_ble_eq_true rfl⟩ (fun m3 => ?_)
  refine jc_to (X2 := [(q, .inr (2, [.ref m1, .ref m2, .null, .int (nI 0)])), (m1, .inl (G.2.1 3, 2, refs (fun _ => none))), (m2, .inl (G.2.1 1, 2, .inl fZ)), (m3, .inl (G.2.1 3, 6, refs (fun _ => none)))]) (P2 := []) rfl ?_
  refine jc_putF C hname (i := 0) dX3_init_25 rfl rfl (by decide +kernel) tyX3 tyX3_ok nmX3 (k := 2) (by decide) (by decide +kernel) rfl rfl (ty := tyX3 2) (by decide +kernel) rfl rfl (Nat.le_of_ble_eq_true rfl) ?_
  refine jc_to (X2 := [(q, .inr (2, [.ref m1, .ref m2, .ref m3, .int (nI 0)])), (m1, .inl (G.2.1 3, 2, refs (fun _ => none))), (m2, .inl (G.2.1 1, 2, .inl fZ)), (m3, .inl (G.2.1 3, 6, refs (fun _ => none)))]) (P2 := []) rfl ?_
  refine jc_iconst C dX3_init_28 (v := nI 0) (by decide) ?_
  refine jc_istore_n C dX3_init_29 (by decide) ?_
  refine jc_lv (lv2 := [(0, .ref q), (1, .int (nI 0))]) rfl ?_
  refine jc_iload_n C dX3_init_30 rfl ?_
  refine jc_iconst C dX3_init_31 (v := nI 2) (by decide) ?_
  refine jc_icmp_geN C dX3_init_32 (tgt := 54) (by decide) (by decide) (by decide) (fun hge => absurd hge (by decide)) (fun _ => ?_)
  refine jc_aload_n C dX3_init_35 rfl ?_
  refine jc_getf C (i := 0) (T := TX3) dX3_init_36 rfl rfl (by decide +kernel) (k := 0) (by decide) (by decide +kernel) rfl rfl ?_
  refine jc_iload_n C dX3_init_39 rfl ?_
  refine jc_new C (fs := bo0) dX3_init_40 (by decide +kernel) tyX0 tyX0_ok (by decide +kernel) (by decide +kernel) (by decide +kernel) (ci := 0) rfl (fun j hj => by rcases (show j = 0 ∨ j = 1 ∨ j = 2 ∨ j = 3 ∨ j = 4 ∨ j = 5 ∨ j = 6 ∨ j = 7 ∨ j = 8 ∨ j = 9 by omega) with rfl | rfl | rfl | rfl | rfl | rfl | rfl | rfl | rfl | rfl <;> rfl) ⟨Nat.le_of_ble_eq_true rfl, Nat.le_of_ble_eq_true rfl⟩ (fun qn => ?_)
  refine jc_dup C dX3_init_43 rfl ?_
  refine jc_callI C ck_Bureau dX3_init_44 gX3_init_X0_init rfl (by decide +kernel) (by decide +kernel) (by decide +kernel) rfl (by decide +kernel) (Nat.le_of_ble_eq_true rfl) ⟨Nat.le_of_ble_eq_true rfl, Nat.le_of_ble_eq_true rfl⟩ rfl rfl ⟨Nat.le_of_ble_eq_true rfl, Nat.le_of_ble_eq_true rfl⟩ (fun v w1 hw => ?_)
  obtain ⟨rfl, b1, rfl, rfl⟩ := hw
  refine jc_aastN C (i := 1) (vs := [.ref (b1 1), .ref (b1 2), .ref (b1 3), .ref (b1 4), .ref (b1 5), .ref (b1 6), .ref (b1 7), .int (nI 0), .int (nI 0), .int (nI 0)]) dX3_init_47 rfl (List.mem_append_right _ (List.mem_append_right _ List.mem_cons_self)) (by decide) (by decide) ?_
  refine jc_to (X2 := [(q, .inr (2, [.ref m1, .ref m2, .ref m3, .int (nI 0)])), (m1, .inl (G.2.1 3, 2, refs (va_up (fun _ => none) 0 (some (b1 0))))), (m2, .inl (G.2.1 1, 2, .inl fZ)), (m3, .inl (G.2.1 3, 6, refs (fun _ => none)))]) (P2 := ([] ++ bur G b1)) rfl ?_
  refine jc_iincN C dX3_init_48 rfl (by decide) ?_
  refine jc_goto C dX3_init_51 (tgt := 30) (by decide) ?_
  refine jc_lv (lv2 := [(0, .ref q), (1, .int (nI 1))]) rfl ?_
  refine jc_iload_n C dX3_init_30 rfl ?_
  refine jc_iconst C dX3_init_31 (v := nI 2) (by decide) ?_
  refine jc_icmp_geN C dX3_init_32 (tgt := 54) (by decide) (by decide) (by decide) (fun hge => absurd hge (by decide)) (fun _ => ?_)
  refine jc_aload_n C dX3_init_35 rfl ?_
  refine jc_getf C (i := 0) (T := TX3) dX3_init_36 rfl rfl (by decide +kernel) (k := 0) (by decide) (by decide +kernel) rfl rfl ?_
  refine jc_iload_n C dX3_init_39 rfl ?_
  refine jc_new C (fs := bo0) dX3_init_40 (by decide +kernel) tyX0 tyX0_ok (by decide +kernel) (by decide +kernel) (by decide +kernel) (ci := 0) rfl (fun j hj => by rcases (show j = 0 ∨ j = 1 ∨ j = 2 ∨ j = 3 ∨ j = 4 ∨ j = 5 ∨ j = 6 ∨ j = 7 ∨ j = 8 ∨ j = 9 by omega) with rfl | rfl | rfl | rfl | rfl | rfl | rfl | rfl | rfl | rfl <;> rfl) ⟨Nat.le_of_ble_eq_true rfl, Nat.le_of_ble_eq_true rfl⟩ (fun qn => ?_)
  refine jc_dup C dX3_init_43 rfl ?_
  refine jc_callI C ck_Bureau dX3_init_44 gX3_init_X0_init rfl (by decide +kernel) (by decide +kernel) (by decide +kernel) rfl (by decide +kernel) (Nat.le_of_ble_eq_true rfl) ⟨Nat.le_of_ble_eq_true rfl, Nat.le_of_ble_eq_true rfl⟩ rfl rfl ⟨Nat.le_of_ble_eq_true rfl, Nat.le_of_ble_eq_true rfl⟩ (fun v w1 hw => ?_)
  obtain ⟨rfl, b2, rfl, rfl⟩ := hw
  refine jc_aastN C (i := 1) (vs := [.ref (b2 1), .ref (b2 2), .ref (b2 3), .ref (b2 4), .ref (b2 5), .ref (b2 6), .ref (b2 7), .int (nI 0), .int (nI 0), .int (nI 0)]) dX3_init_47 rfl (List.mem_append_right _ (List.mem_append_right _ List.mem_cons_self)) (by decide) (by decide) ?_
  refine jc_to (X2 := [(q, .inr (2, [.ref m1, .ref m2, .ref m3, .int (nI 0)])), (m1, .inl (G.2.1 3, 2, refs (va_up (va_up (fun _ => none) 0 (some (b1 0))) 1 (some (b2 0))))), (m2, .inl (G.2.1 1, 2, .inl fZ)), (m3, .inl (G.2.1 3, 6, refs (fun _ => none)))]) (P2 := (([] ++ bur G b1) ++ bur G b2)) rfl ?_
  refine jc_iincN C dX3_init_48 rfl (by decide) ?_
  refine jc_goto C dX3_init_51 (tgt := 30) (by decide) ?_
  refine jc_lv (lv2 := [(0, .ref q), (1, .int (nI 2))]) rfl ?_
  refine jc_iload_n C dX3_init_30 rfl ?_
  refine jc_iconst C dX3_init_31 (v := nI 2) (by decide) ?_
  refine jc_icmp_geN C dX3_init_32 (tgt := 54) (by decide) (by decide) (by decide) (fun _ => ?_) (fun hlt => absurd hlt (by decide))
  refine jc_iconst C dX3_init_54 (v := nI 0) (by decide) ?_
  refine jc_istore_n C dX3_init_55 (by decide) ?_
  refine jc_lv (lv2 := [(0, .ref q), (1, .int (nI 0))]) rfl ?_
  refine jc_iload_n C dX3_init_56 rfl ?_
  refine jc_bipush C dX3_init_57 (v := nI 6) (by decide) ?_
  refine jc_icmp_geN C dX3_init_59 (tgt := 81) (by decide) (by decide) (by decide) (fun hge => absurd hge (by decide)) (fun _ => ?_)
  refine jc_aload_n C dX3_init_62 rfl ?_
  refine jc_getf C (i := 0) (T := TX3) dX3_init_63 rfl rfl (by decide +kernel) (k := 2) (by decide) (by decide +kernel) rfl rfl ?_
  refine jc_iload_n C dX3_init_66 rfl ?_
  refine jc_new C (fs := bo0) dX3_init_67 (by decide +kernel) tyX0 tyX0_ok (by decide +kernel) (by decide +kernel) (by decide +kernel) (ci := 0) rfl (fun j hj => by rcases (show j = 0 ∨ j = 1 ∨ j = 2 ∨ j = 3 ∨ j = 4 ∨ j = 5 ∨ j = 6 ∨ j = 7 ∨ j = 8 ∨ j = 9 by omega) with rfl | rfl | rfl | rfl | rfl | rfl | rfl | rfl | rfl | rfl <;> rfl) ⟨Nat.le_of_ble_eq_true rfl, Nat.le_of_ble_eq_true rfl⟩ (fun qn => ?_)
  refine jc_dup C dX3_init_70 rfl ?_
  refine jc_callI C ck_Bureau dX3_init_71 gX3_init_X0_init rfl (by decide +kernel) (by decide +kernel) (by decide +kernel) rfl (by decide +kernel) (Nat.le_of_ble_eq_true rfl) ⟨Nat.le_of_ble_eq_true rfl, Nat.le_of_ble_eq_true rfl⟩ rfl rfl ⟨Nat.le_of_ble_eq_true rfl, Nat.le_of_ble_eq_true rfl⟩ (fun v w1 hw => ?_)
  obtain ⟨rfl, b3, rfl, rfl⟩ := hw
  refine jc_aastN C (i := 3) (vs := [.ref (b3 1), .ref (b3 2), .ref (b3 3), .ref (b3 4), .ref (b3 5), .ref (b3 6), .ref (b3 7), .int (nI 0), .int (nI 0), .int (nI 0)]) dX3_init_74 rfl (List.mem_append_right _ (List.mem_append_right _ List.mem_cons_self)) (by decide) (by decide) ?_
  refine jc_to (X2 := [(q, .inr (2, [.ref m1, .ref m2, .ref m3, .int (nI 0)])), (m1, .inl (G.2.1 3, 2, refs (va_up (va_up (fun _ => none) 0 (some (b1 0))) 1 (some (b2 0))))), (m2, .inl (G.2.1 1, 2, .inl fZ)), (m3, .inl (G.2.1 3, 6, refs (va_up (fun _ => none) 0 (some (b3 0)))))]) (P2 := ((([] ++ bur G b1) ++ bur G b2) ++ bur G b3)) rfl ?_
  refine jc_iincN C dX3_init_75 rfl (by decide) ?_
  refine jc_goto C dX3_init_78 (tgt := 56) (by decide) ?_
  refine jc_lv (lv2 := [(0, .ref q), (1, .int (nI 1))]) rfl ?_
  refine jc_iload_n C dX3_init_56 rfl ?_
  refine jc_bipush C dX3_init_57 (v := nI 6) (by decide) ?_
  refine jc_icmp_geN C dX3_init_59 (tgt := 81) (by decide) (by decide) (by decide) (fun hge => absurd hge (by decide)) (fun _ => ?_)
  refine jc_aload_n C dX3_init_62 rfl ?_
  refine jc_getf C (i := 0) (T := TX3) dX3_init_63 rfl rfl (by decide +kernel) (k := 2) (by decide) (by decide +kernel) rfl rfl ?_
  refine jc_iload_n C dX3_init_66 rfl ?_
  refine jc_new C (fs := bo0) dX3_init_67 (by decide +kernel) tyX0 tyX0_ok (by decide +kernel) (by decide +kernel) (by decide +kernel) (ci := 0) rfl (fun j hj => by rcases (show j = 0 ∨ j = 1 ∨ j = 2 ∨ j = 3 ∨ j = 4 ∨ j = 5 ∨ j = 6 ∨ j = 7 ∨ j = 8 ∨ j = 9 by omega) with rfl | rfl | rfl | rfl | rfl | rfl | rfl | rfl | rfl | rfl <;> rfl) ⟨Nat.le_of_ble_eq_true rfl, Nat.le_of_ble_eq_true rfl⟩ (fun qn => ?_)
  refine jc_dup C dX3_init_70 rfl ?_
  refine jc_callI C ck_Bureau dX3_init_71 gX3_init_X0_init rfl (by decide +kernel) (by decide +kernel) (by decide +kernel) rfl (by decide +kernel) (Nat.le_of_ble_eq_true rfl) ⟨Nat.le_of_ble_eq_true rfl, Nat.le_of_ble_eq_true rfl⟩ rfl rfl ⟨Nat.le_of_ble_eq_true rfl, Nat.le_of_ble_eq_true rfl⟩ (fun v w1 hw => ?_)
  obtain ⟨rfl, b4, rfl, rfl⟩ := hw
  refine jc_aastN C (i := 3) (vs := [.ref (b4 1), .ref (b4 2), .ref (b4 3), .ref (b4 4), .ref (b4 5), .ref (b4 6), .ref (b4 7), .int (nI 0), .int (nI 0), .int (nI 0)]) dX3_init_74 rfl (List.mem_append_right _ (List.mem_append_right _ List.mem_cons_self)) (by decide) (by decide) ?_
  refine jc_to (X2 := [(q, .inr (2, [.ref m1, .ref m2, .ref m3, .int (nI 0)])), (m1, .inl (G.2.1 3, 2, refs (va_up (va_up (fun _ => none) 0 (some (b1 0))) 1 (some (b2 0))))), (m2, .inl (G.2.1 1, 2, .inl fZ)), (m3, .inl (G.2.1 3, 6, refs (va_up (va_up (fun _ => none) 0 (some (b3 0))) 1 (some (b4 0)))))]) (P2 := (((([] ++ bur G b1) ++ bur G b2) ++ bur G b3) ++ bur G b4)) rfl ?_
  refine jc_iincN C dX3_init_75 rfl (by decide) ?_
  refine jc_goto C dX3_init_78 (tgt := 56) (by decide) ?_
  refine jc_lv (lv2 := [(0, .ref q), (1, .int (nI 2))]) rfl ?_
  refine jc_iload_n C dX3_init_56 rfl ?_
  refine jc_bipush C dX3_init_57 (v := nI 6) (by decide) ?_
  refine jc_icmp_geN C dX3_init_59 (tgt := 81) (by decide) (by decide) (by decide) (fun hge => absurd hge (by decide)) (fun _ => ?_)
  refine jc_aload_n C dX3_init_62 rfl ?_
  refine jc_getf C (i := 0) (T := TX3) dX3_init_63 rfl rfl (by decide +kernel) (k := 2) (by decide) (by decide +kernel) rfl rfl ?_
  refine jc_iload_n C dX3_init_66 rfl ?_
  refine jc_new C (fs := bo0) dX3_init_67 (by decide +kernel) tyX0 tyX0_ok (by decide +kernel) (by decide +kernel) (by decide +kernel) (ci := 0) rfl (fun j hj => by rcases (show j = 0 ∨ j = 1 ∨ j = 2 ∨ j = 3 ∨ j = 4 ∨ j = 5 ∨ j = 6 ∨ j = 7 ∨ j = 8 ∨ j = 9 by omega) with rfl | rfl | rfl | rfl | rfl | rfl | rfl | rfl | rfl | rfl <;> rfl) ⟨Nat.le_of_ble_eq_true rfl, Nat.le_of_ble_eq_true rfl⟩ (fun qn => ?_)
  refine jc_dup C dX3_init_70 rfl ?_
  refine jc_callI C ck_Bureau dX3_init_71 gX3_init_X0_init rfl (by decide +kernel) (by decide +kernel) (by decide +kernel) rfl (by decide +kernel) (Nat.le_of_ble_eq_true rfl) ⟨Nat.le_of_ble_eq_true rfl, Nat.le_of_ble_eq_true rfl⟩ rfl rfl ⟨Nat.le_of_ble_eq_true rfl, Nat.le_of_ble_eq_true rfl⟩ (fun v w1 hw => ?_)
  obtain ⟨rfl, b5, rfl, rfl⟩ := hw
  refine jc_aastN C (i := 3) (vs := [.ref (b5 1), .ref (b5 2), .ref (b5 3), .ref (b5 4), .ref (b5 5), .ref (b5 6), .ref (b5 7), .int (nI 0), .int (nI 0), .int (nI 0)]) dX3_init_74 rfl (List.mem_append_right _ (List.mem_append_right _ List.mem_cons_self)) (by decide) (by decide) ?_
  refine jc_to (X2 := [(q, .inr (2, [.ref m1, .ref m2, .ref m3, .int (nI 0)])), (m1, .inl (G.2.1 3, 2, refs (va_up (va_up (fun _ => none) 0 (some (b1 0))) 1 (some (b2 0))))), (m2, .inl (G.2.1 1, 2, .inl fZ)), (m3, .inl (G.2.1 3, 6, refs (va_up (va_up (va_up (fun _ => none) 0 (some (b3 0))) 1 (some (b4 0))) 2 (some (b5 0)))))]) (P2 := ((((([] ++ bur G b1) ++ bur G b2) ++ bur G b3) ++ bur G b4) ++ bur G b5)) rfl ?_
  refine jc_iincN C dX3_init_75 rfl (by decide) ?_
  refine jc_goto C dX3_init_78 (tgt := 56) (by decide) ?_
  refine jc_lv (lv2 := [(0, .ref q), (1, .int (nI 3))]) rfl ?_
  refine jc_iload_n C dX3_init_56 rfl ?_
  refine jc_bipush C dX3_init_57 (v := nI 6) (by decide) ?_
  refine jc_icmp_geN C dX3_init_59 (tgt := 81) (by decide) (by decide) (by decide) (fun hge => absurd hge (by decide)) (fun _ => ?_)
  refine jc_aload_n C dX3_init_62 rfl ?_
  refine jc_getf C (i := 0) (T := TX3) dX3_init_63 rfl rfl (by decide +kernel) (k := 2) (by decide) (by decide +kernel) rfl rfl ?_
  refine jc_iload_n C dX3_init_66 rfl ?_
  refine jc_new C (fs := bo0) dX3_init_67 (by decide +kernel) tyX0 tyX0_ok (by decide +kernel) (by decide +kernel) (by decide +kernel) (ci := 0) rfl (fun j hj => by rcases (show j = 0 ∨ j = 1 ∨ j = 2 ∨ j = 3 ∨ j = 4 ∨ j = 5 ∨ j = 6 ∨ j = 7 ∨ j = 8 ∨ j = 9 by omega) with rfl | rfl | rfl | rfl | rfl | rfl | rfl | rfl | rfl | rfl <;> rfl) ⟨Nat.le_of_ble_eq_true rfl, Nat.le_of_ble_eq_true rfl⟩ (fun qn => ?_)
  refine jc_dup C dX3_init_70 rfl ?_
  refine jc_callI C ck_Bureau dX3_init_71 gX3_init_X0_init rfl (by decide +kernel) (by decide +kernel) (by decide +kernel) rfl (by decide +kernel) (Nat.le_of_ble_eq_true rfl) ⟨Nat.le_of_ble_eq_true rfl, Nat.le_of_ble_eq_true rfl⟩ rfl rfl ⟨Nat.le_of_ble_eq_true rfl, Nat.le_of_ble_eq_true rfl⟩ (fun v w1 hw => ?_)
  obtain ⟨rfl, b6, rfl, rfl⟩ := hw
  refine jc_aastN C (i := 3) (vs := [.ref (b6 1), .ref (b6 2), .ref (b6 3), .ref (b6 4), .ref (b6 5), .ref (b6 6), .ref (b6 7), .int (nI 0), .int (nI 0), .int (nI 0)]) dX3_init_74 rfl (List.mem_append_right _ (List.mem_append_right _ List.mem_cons_self)) (by decide) (by decide) ?_
  refine jc_to (X2 := [(q, .inr (2, [.ref m1, .ref m2, .ref m3, .int (nI 0)])), (m1, .inl (G.2.1 3, 2, refs (va_up (va_up (fun _ => none) 0 (some (b1 0))) 1 (some (b2 0))))), (m2, .inl (G.2.1 1, 2, .inl fZ)), (m3, .inl (G.2.1 3, 6, refs (va_up (va_up (va_up (va_up (fun _ => none) 0 (some (b3 0))) 1 (some (b4 0))) 2 (some (b5 0))) 3 (some (b6 0)))))]) (P2 := (((((([] ++ bur G b1) ++ bur G b2) ++ bur G b3) ++ bur G b4) ++ bur G b5) ++ bur G b6)) rfl ?_
  refine jc_iincN C dX3_init_75 rfl (by decide) ?_
  refine jc_goto C dX3_init_78 (tgt := 56) (by decide) ?_
  refine jc_lv (lv2 := [(0, .ref q), (1, .int (nI 4))]) rfl ?_
  refine jc_iload_n C dX3_init_56 rfl ?_
  refine jc_bipush C dX3_init_57 (v := nI 6) (by decide) ?_
  refine jc_icmp_geN C dX3_init_59 (tgt := 81) (by decide) (by decide) (by decide) (fun hge => absurd hge (by decide)) (fun _ => ?_)
  refine jc_aload_n C dX3_init_62 rfl ?_
  refine jc_getf C (i := 0) (T := TX3) dX3_init_63 rfl rfl (by decide +kernel) (k := 2) (by decide) (by decide +kernel) rfl rfl ?_
  refine jc_iload_n C dX3_init_66 rfl ?_
  refine jc_new C (fs := bo0) dX3_init_67 (by decide +kernel) tyX0 tyX0_ok (by decide +kernel) (by decide +kernel) (by decide +kernel) (ci := 0) rfl (fun j hj => by rcases (show j = 0 ∨ j = 1 ∨ j = 2 ∨ j = 3 ∨ j = 4 ∨ j = 5 ∨ j = 6 ∨ j = 7 ∨ j = 8 ∨ j = 9 by omega) with rfl | rfl | rfl | rfl | rfl | rfl | rfl | rfl | rfl | rfl <;> rfl) ⟨Nat.le_of_ble_eq_true rfl, Nat.le_of_ble_eq_true rfl⟩ (fun qn => ?_)
  refine jc_dup C dX3_init_70 rfl ?_
  refine jc_callI C ck_Bureau dX3_init_71 gX3_init_X0_init rfl (by decide +kernel) (by decide +kernel) (by decide +kernel) rfl (by decide +kernel) (Nat.le_of_ble_eq_true rfl) ⟨Nat.le_of_ble_eq_true rfl, Nat.le_of_ble_eq_true rfl⟩ rfl rfl ⟨Nat.le_of_ble_eq_true rfl, Nat.le_of_ble_eq_true rfl⟩ (fun v w1 hw => ?_)
  obtain ⟨rfl, b7, rfl, rfl⟩ := hw
  refine jc_aastN C (i := 3) (vs := [.ref (b7 1), .ref (b7 2), .ref (b7 3), .ref (b7 4), .ref (b7 5), .ref (b7 6), .ref (b7 7), .int (nI 0), .int (nI 0), .int (nI 0)]) dX3_init_74 rfl (List.mem_append_right _ (List.mem_append_right _ List.mem_cons_self)) (by decide) (by decide) ?_
  refine jc_to (X2 := [(q, .inr (2, [.ref m1, .ref m2, .ref m3, .int (nI 0)])), (m1, .inl (G.2.1 3, 2, refs (va_up (va_up (fun _ => none) 0 (some (b1 0))) 1 (some (b2 0))))), (m2, .inl (G.2.1 1, 2, .inl fZ)), (m3, .inl (G.2.1 3, 6, refs (va_up (va_up (va_up (va_up (va_up (fun _ => none) 0 (some (b3 0))) 1 (some (b4 0))) 2 (some (b5 0))) 3 (some (b6 0))) 4 (some (b7 0)))))]) (P2 := ((((((([] ++ bur G b1) ++ bur G b2) ++ bur G b3) ++ bur G b4) ++ bur G b5) ++ bur G b6) ++ bur G b7)) rfl ?_
  refine jc_iincN C dX3_init_75 rfl (by decide) ?_
  refine jc_goto C dX3_init_78 (tgt := 56) (by decide) ?_
  refine jc_lv (lv2 := [(0, .ref q), (1, .int (nI 5))]) rfl ?_
  refine jc_iload_n C dX3_init_56 rfl ?_
  refine jc_bipush C dX3_init_57 (v := nI 6) (by decide) ?_
  refine jc_icmp_geN C dX3_init_59 (tgt := 81) (by decide) (by decide) (by decide) (fun hge => absurd hge (by decide)) (fun _ => ?_)
  refine jc_aload_n C dX3_init_62 rfl ?_
  refine jc_getf C (i := 0) (T := TX3) dX3_init_63 rfl rfl (by decide +kernel) (k := 2) (by decide) (by decide +kernel) rfl rfl ?_
  refine jc_iload_n C dX3_init_66 rfl ?_
  refine jc_new C (fs := bo0) dX3_init_67 (by decide +kernel) tyX0 tyX0_ok (by decide +kernel) (by decide +kernel) (by decide +kernel) (ci := 0) rfl (fun j hj => by rcases (show j = 0 ∨ j = 1 ∨ j = 2 ∨ j = 3 ∨ j = 4 ∨ j = 5 ∨ j = 6 ∨ j = 7 ∨ j = 8 ∨ j = 9 by omega) with rfl | rfl | rfl | rfl | rfl | rfl | rfl | rfl | rfl | rfl <;> rfl) ⟨Nat.le_of_ble_eq_true rfl, Nat.le_of_ble_eq_true rfl⟩ (fun qn => ?_)
  refine jc_dup C dX3_init_70 rfl ?_
  refine jc_callI C ck_Bureau dX3_init_71 gX3_init_X0_init rfl (by decide +kernel) (by decide +kernel) (by decide +kernel) rfl (by decide +kernel) (Nat.le_of_ble_eq_true rfl) ⟨Nat.le_of_ble_eq_true rfl, Nat.le_of_ble_eq_true rfl⟩ rfl rfl ⟨Nat.le_of_ble_eq_true rfl, Nat.le_of_ble_eq_true rfl⟩ (fun v w1 hw => ?_)
  obtain ⟨rfl, b8, rfl, rfl⟩ := hw
  refine jc_aastN C (i := 3) (vs := [.ref (b8 1), .ref (b8 2), .ref (b8 3), .ref (b8 4), .ref (b8 5), .ref (b8 6), .ref (b8 7), .int (nI 0), .int (nI 0), .int (nI 0)]) dX3_init_74 rfl (List.mem_append_right _ (List.mem_append_right _ List.mem_cons_self)) (by decide) (by decide) ?_
  refine jc_to (X2 := [(q, .inr (2, [.ref m1, .ref m2, .ref m3, .int (nI 0)])), (m1, .inl (G.2.1 3, 2, refs (va_up (va_up (fun _ => none) 0 (some (b1 0))) 1 (some (b2 0))))), (m2, .inl (G.2.1 1, 2, .inl fZ)), (m3, .inl (G.2.1 3, 6, refs (va_up (va_up (va_up (va_up (va_up (va_up (fun _ => none) 0 (some (b3 0))) 1 (some (b4 0))) 2 (some (b5 0))) 3 (some (b6 0))) 4 (some (b7 0))) 5 (some (b8 0)))))]) (P2 := (((((((([] ++ bur G b1) ++ bur G b2) ++ bur G b3) ++ bur G b4) ++ bur G b5) ++ bur G b6) ++ bur G b7) ++ bur G b8)) rfl ?_
  refine jc_iincN C dX3_init_75 rfl (by decide) ?_
  refine jc_goto C dX3_init_78 (tgt := 56) (by decide) ?_
  refine jc_lv (lv2 := [(0, .ref q), (1, .int (nI 6))]) rfl ?_
  refine jc_iload_n C dX3_init_56 rfl ?_
  refine jc_bipush C dX3_init_57 (v := nI 6) (by decide) ?_
  refine jc_icmp_geN C dX3_init_59 (tgt := 81) (by decide) (by decide) (by decide) (fun _ => ?_) (fun hlt => absurd hlt (by decide))
  exact jc_return C hret dX3_init_81 ⟨rfl, fun j => match j with | 0 => q | 1 => m1 | 2 => m2 | _ => m3, fun j => match j with | 1 => b1 | 2 => b2 | 3 => b3 | 4 => b4 | 5 => b5 | 6 => b6 | 7 => b7 | _ => b8, rfl, rfl⟩

def pot9 (G : GG) (c : Nat) (b0 m : Nat → Nat) (b : Nat → Nat → Nat) (t lb : Nat → Nat) : va_W := [(c, .inr (4, [.ref (b0 0), .ref (m 0), .ref (t 0), .ref (lb 0)]))] ++ (((([] ++ bur G b0) ++ mem9 G m b) ++ [(t 0, .inr (3, [.ref (t 1), .int (nI 0)])), (t 1, .inl (G.2.1 0, 60, .inl fZ))]) ++ [(lb 0, .inr (1, [.ref (lb 1), .ref (lb 2), .ref (lb 3), .ref (lb 4)])), (lb 1, .inl (G.2.1 0, 8, .inl fZ)), (lb 2, .inl (G.2.1 1, 256, .inl fZ)), (lb 3, .inl (G.2.1 0, 256, .inl fZ)), (lb 4, .inl (G.2.1 0, 8, .inl fZ))])

set_option maxHeartbeats 4000000 in
set_option maxRecDepth 100000 in
theorem ck_PotLabels {l : Launch} {G : GG} {q : Nat} : Cz l G yX5_init wsX5_init { frames := 6, cells := 83, slots := 1058, locals := 200 } 83 1058 [.ref q] [(q, .inr (4, [.null, .null, .null, .null]))] (fun v w => v = none ∧ ∃ (b0 m : Nat → Nat) (b : Nat → Nat → Nat) (t lb : Nat → Nat), w = pot9 G q b0 m b t lb) := by
  refine Cz.of (cc := cX5_init) (maxL := 1) (ret := none) (lv := [(0, .ref q)]) (by decide) rfl rfl (Nat.le_of_ble_eq_true rfl) ?_
  intro pg ev sg mm bl mt cd AZ C hname hret
  refine jc_aload_n C dX5_init_0 rfl ?_
  refine jc_objInit C dX5_init_1 (by decide +kernel) (by decide +kernel) (by decide +kernel) (by decide) (Nat.le_of_ble_eq_true rfl) ?_
  refine jc_aload_n C dX5_init_4 rfl ?_
  refine jc_new C (fs := bo0) dX5_init_5 (by decide +kernel) tyX0 tyX0_ok (by decide +kernel) (by decide +kernel) (by decide +kernel) (ci := 0) rfl (fun j hj => by rcases (show j = 0 ∨ j = 1 ∨ j = 2 ∨ j = 3 ∨ j = 4 ∨ j = 5 ∨ j = 6 ∨ j = 7 ∨ j = 8 ∨ j = 9 by omega) with rfl | rfl | rfl | rfl | rfl | rfl | rfl | rfl | rfl | rfl <;> rfl) ⟨Nat.le_of_ble_eq_true rfl, Nat.le_of_ble_eq_true rfl⟩ (fun qn => ?_)
  refine jc_dup C dX5_init_8 rfl ?_
  refine jc_callI C ck_Bureau dX5_init_9 gX5_init_X0_init rfl (by decide +kernel) (by decide +kernel) (by decide +kernel) rfl (by decide +kernel) (Nat.le_of_ble_eq_true rfl) ⟨Nat.le_of_ble_eq_true rfl, Nat.le_of_ble_eq_true rfl⟩ rfl rfl ⟨Nat.le_of_ble_eq_true rfl, Nat.le_of_ble_eq_true rfl⟩ (fun v w1 hw => ?_)
  obtain ⟨rfl, b0, rfl, rfl⟩ := hw
  refine jc_putF C hname (i := 0) dX5_init_12 rfl rfl (by decide +kernel) tyX5 tyX5_ok nmX5 (k := 0) (by decide) (by decide +kernel) rfl rfl (ty := tyX5 0) (by decide +kernel) rfl rfl (Nat.le_of_ble_eq_true rfl) ?_
  refine jc_to (X2 := [(q, .inr (4, [.ref (b0 0), .null, .null, .null]))]) (P2 := ([] ++ bur G b0)) rfl ?_
  refine jc_aload_n C dX5_init_15 rfl ?_
  refine jc_new C (fs := [.null, .null, .null, .int (nI 0)]) dX5_init_16 (by decide +kernel) tyX3 tyX3_ok (by decide +kernel) (by decide +kernel) (by decide +kernel) (ci := 2) rfl (fun j hj => by rcases (show j = 0 ∨ j = 1 ∨ j = 2 ∨ j = 3 by omega) with rfl | rfl | rfl | rfl <;> rfl) ⟨Nat.le_of_ble_eq_true rfl, Nat.le_of_ble_eq_true rfl⟩ (fun qn => ?_)
  refine jc_dup C dX5_init_19 rfl ?_
  refine jc_callI C ck_Memory dX5_init_20 gX5_init_X3_init rfl (by decide +kernel) (by decide +kernel) (by decide +kernel) rfl (by decide +kernel) (Nat.le_of_ble_eq_true rfl) ⟨Nat.le_of_ble_eq_true rfl, Nat.le_of_ble_eq_true rfl⟩ rfl rfl ⟨Nat.le_of_ble_eq_true rfl, Nat.le_of_ble_eq_true rfl⟩ (fun v w1 hw => ?_)
  obtain ⟨rfl, m, b, rfl, rfl⟩ := hw
  refine jc_putF C hname (i := 0) dX5_init_23 rfl rfl (by decide +kernel) tyX5 tyX5_ok nmX5 (k := 1) (by decide) (by decide +kernel) rfl rfl (ty := tyX5 1) (by decide +kernel) rfl rfl (Nat.le_of_ble_eq_true rfl) ?_
  refine jc_to (X2 := [(q, .inr (4, [.ref (b0 0), .ref (m 0), .null, .null]))]) (P2 := (([] ++ bur G b0) ++ mem9 G m b)) rfl ?_
  refine jc_aload_n C dX5_init_26 rfl ?_
  refine jc_new C (fs := [.null, .int (nI 0)]) dX5_init_27 (by decide +kernel) tyX4 tyX4_ok (by decide +kernel) (by decide +kernel) (by decide +kernel) (ci := 3) rfl (fun j hj => by rcases (show j = 0 ∨ j = 1 by omega) with rfl | rfl <;> rfl) ⟨Nat.le_of_ble_eq_true rfl, Nat.le_of_ble_eq_true rfl⟩ (fun qn => ?_)
  refine jc_dup C dX5_init_30 rfl ?_
  refine jc_callIN (host := "PotLabels") C ck_Text dX5_init_31 gX5_init_X4_init_n25 rfl (by decide +kernel) (by decide +kernel) (by decide +kernel) rfl (by decide +kernel) (Nat.le_of_ble_eq_true rfl) ⟨Nat.le_of_ble_eq_true rfl, Nat.le_of_ble_eq_true rfl⟩ rfl rfl ⟨Nat.le_of_ble_eq_true rfl, Nat.le_of_ble_eq_true rfl⟩ (fun v w1 hw => ?_)
  obtain ⟨rfl, t, rfl, rfl⟩ := hw
  refine jc_putF C hname (i := 0) dX5_init_34 rfl rfl (by decide +kernel) tyX5 tyX5_ok nmX5 (k := 2) (by decide) (by decide +kernel) rfl rfl (ty := tyX5 2) (by decide +kernel) rfl rfl (Nat.le_of_ble_eq_true rfl) ?_
  refine jc_to (X2 := [(q, .inr (4, [.ref (b0 0), .ref (m 0), .ref (t 0), .null]))]) (P2 := ((([] ++ bur G b0) ++ mem9 G m b) ++ [(t 0, .inr (3, [.ref (t 1), .int (nI 0)])), (t 1, .inl (G.2.1 0, 60, .inl fZ))])) rfl ?_
  refine jc_aload_n C dX5_init_37 rfl ?_
  refine jc_new C (fs := [.null, .null, .null, .null]) dX5_init_38 (by decide +kernel) tyX2 tyX2_ok (by decide +kernel) (by decide +kernel) (by decide +kernel) (ci := 1) rfl (fun j hj => by rcases (show j = 0 ∨ j = 1 ∨ j = 2 ∨ j = 3 by omega) with rfl | rfl | rfl | rfl <;> rfl) ⟨Nat.le_of_ble_eq_true rfl, Nat.le_of_ble_eq_true rfl⟩ (fun qn => ?_)
  refine jc_dup C dX5_init_41 rfl ?_
  refine jc_callIN (host := "PotLabels") C ck_Labelling dX5_init_42 gX5_init_X2_init_n32 rfl (by decide +kernel) (by decide +kernel) (by decide +kernel) rfl (by decide +kernel) (Nat.le_of_ble_eq_true rfl) ⟨Nat.le_of_ble_eq_true rfl, Nat.le_of_ble_eq_true rfl⟩ rfl rfl ⟨Nat.le_of_ble_eq_true rfl, Nat.le_of_ble_eq_true rfl⟩ (fun v w1 hw => ?_)
  obtain ⟨rfl, lb, rfl, rfl⟩ := hw
  refine jc_putF C hname (i := 0) dX5_init_45 rfl rfl (by decide +kernel) tyX5 tyX5_ok nmX5 (k := 3) (by decide) (by decide +kernel) rfl rfl (ty := tyX5 3) (by decide +kernel) rfl rfl (Nat.le_of_ble_eq_true rfl) ?_
  refine jc_to (X2 := [(q, .inr (4, [.ref (b0 0), .ref (m 0), .ref (t 0), .ref (lb 0)]))]) (P2 := (((([] ++ bur G b0) ++ mem9 G m b) ++ [(t 0, .inr (3, [.ref (t 1), .int (nI 0)])), (t 1, .inl (G.2.1 0, 60, .inl fZ))]) ++ [(lb 0, .inr (1, [.ref (lb 1), .ref (lb 2), .ref (lb 3), .ref (lb 4)])), (lb 1, .inl (G.2.1 0, 8, .inl fZ)), (lb 2, .inl (G.2.1 1, 256, .inl fZ)), (lb 3, .inl (G.2.1 0, 256, .inl fZ)), (lb 4, .inl (G.2.1 0, 8, .inl fZ))])) rfl ?_
  exact jc_return C hret dX5_init_48 ⟨rfl, b0, m, b, t, lb, rfl⟩
