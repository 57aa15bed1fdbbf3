section JM
variable {G : GG} {p : Program} {l : Launch} {e : Env} {R : Room} {s : State} {m : MethodId} {args : Array Value} {below : List Frame} {meth : Method} {c : Code} {A : Nat → Prop} {nL : Nat} {Q : State → Prop} {k9 n9 pc : Nat} {lv : List (Nat × Value)} {st : List Value} {M : MM} {cc : ByteArray} {own : String} {Ts : List Cond}
theorem nar_b (b : Bool) : vp_nar .boolean (bI b) = bI b := by cases b <;> rfl
theorem j_ldcw (C : Cx G p s m args meth c A cc nL own Ts) {index : Nat} {v : Int32} (hd : decode cc pc = .ok (.ldc_w index, 3)) (hc : Cond.constant own index v ∈ Ts)
    (k : J G p l e R s m args below meth c A nL Q k9 n9 (pc + 3) lv (.int v :: st) M)
    : J G p l e R s m args below meth c A nL Q k9 n9 pc lv st M := by
  intro H locs ls hP hS hv
  exact lv_ldcw C.1 C.2.1 C.2.2.2.1 (C.w hc) hd (k H locs ls hP hS hv)
theorem j_ldc2 (C : Cx G p s m args meth c A cc nL own Ts) {index : Nat} {v : Int64} (hd : decode cc pc = .ok (.ldc2_w index, 3)) (hc : Cond.constantLong own index v ∈ Ts)
    (k : J G p l e R s m args below meth c A nL Q k9 n9 (pc + 3) lv (.long v :: st) M)
    : J G p l e R s m args below meth c A nL Q k9 n9 pc lv st M := by
  intro H locs ls hP hS hv
  exact lv_ldc2 C.1 C.2.1 C.2.2.2.1 (C.w hc) hd (k H locs ls hP hS hv)
theorem j_ldc2d (C : Cx G p s m args meth c A cc nL own Ts) {index : Nat} {v : UInt64} (hd : decode cc pc = .ok (.ldc2_w index, 3)) (hc : Cond.constantDouble own index v ∈ Ts)
    (k : J G p l e R s m args below meth c A nL Q k9 n9 (pc + 3) lv (.double v :: st) M)
    : J G p l e R s m args below meth c A nL Q k9 n9 pc lv st M := by
  intro H locs ls hP hS hv
  exact lv_ldc2d C.1 C.2.1 C.2.2.2.1 (C.w hc) hd (k H locs ls hP hS hv)
theorem j_dconst0 (C : Cx G p s m args meth c A cc nL own Ts) (hd : decode cc pc = .ok (.dconst 0, 1))
    (k : J G p l e R s m args below meth c A nL Q k9 n9 (pc + 1) lv (.double FP.dconst0 :: st) M)
    : J G p l e R s m args below meth c A nL Q k9 n9 pc lv st M := by
  intro H locs ls hP hS hv
  exact lv_dconst0 C.1 C.2.1 hd (k H locs ls hP hS hv)
theorem j_dconst1 (C : Cx G p s m args meth c A cc nL own Ts) (hd : decode cc pc = .ok (.dconst 1, 1))
    (k : J G p l e R s m args below meth c A nL Q k9 n9 (pc + 1) lv (.double FP.dconst1 :: st) M)
    : J G p l e R s m args below meth c A nL Q k9 n9 pc lv st M := by
  intro H locs ls hP hS hv
  exact lv_dconst1 C.1 C.2.1 hd (k H locs ls hP hS hv)
theorem j_lcmp (C : Cx G p s m args meth c A cc nL own Ts) {x y : Int64} (hd : decode cc pc = .ok (.lcmp, 1))
    (k : J G p l e R s m args below meth c A nL Q k9 n9 (pc + 1) lv (.int (lg_cmp x y) :: st) M)
    : J G p l e R s m args below meth c A nL Q k9 n9 pc lv (.long y :: .long x :: st) M := by
  intro H locs ls hP hS hv
  exact W.lcmp C.1 C.2.1 hd (k H locs ls hP hS hv)
theorem j_zastN (C : Cx G p s m args meth c A cc nL own Ts) {i n a : Nat} {b : Bool} (hd : decode cc pc = .ok (.bastore, 1)) (hi : zlen i = some n) (hx : a < n) (hn : n < 2 ^ 31)
    (k : J G p l e R s m args below meth c A nL Q k9 n9 (pc + 1) lv st (setR M i a (bI b)))
    : J G p l e R s m args below meth c A nL Q k9 n9 pc lv (.int (bI b) :: .int (nI a) :: .ref (G.2.2 i) :: st) M := by
  intro H locs ls hP hS hv
  refine va_zast C.1 C.2.1 C.K hP C.D hS i 1 (WS_get (zlen_cell (G := G) (M := M) hi).1 (zlen_cell hi).2) rfl (vp_in_nI hx hn) hd (fun H1 locs1 hP1 _ hS1 => ?_)
  rw [nar_b, nI_clamp (Nat.lt_trans hx hn), WS_setR (zlen_cell (G := G) (M := M) hi).1 (by rw [(zlen_cell hi).2, setR_eq])] at hP1
  exact k H1 locs1 ls hP1 hS1 hv
theorem j_aald74 (C : Cx G p s m args meth c A cc nL own Ts) {a : Nat} (hd : decode cc pc = .ok (.aaload, 1)) (hx : a < 2)
    (k : J G p l e R s m args below meth c A nL Q k9 n9 (pc + 1) lv (.ref (G.2.2 (8 * (a + 1))) :: st) M)
    : J G p l e R s m args below meth c A nL Q k9 n9 pc lv (.int (nI a) :: .ref (G.2.2 74) :: st) M := by
  intro H locs ls hP hS hv
  have k2 := k H locs ls hP hS hv
  rw [← nI_clamp (Nat.lt_trans hx (by decide : 2 < 2 ^ 31))] at k2
  exact va_aldq C.1 C.2.1 C.K hP 74 3 (WS_get (by decide) rfl) rfl (vp_in_nI hx (by decide)) hd k2
theorem j_aald76 (C : Cx G p s m args meth c A cc nL own Ts) {a : Nat} (hd : decode cc pc = .ok (.aaload, 1)) (hx : a < 6)
    (k : J G p l e R s m args below meth c A nL Q k9 n9 (pc + 1) lv (.ref (G.2.2 (8 * (3 + M.2.2.1 a))) :: st) M)
    : J G p l e R s m args below meth c A nL Q k9 n9 pc lv (.int (nI a) :: .ref (G.2.2 76) :: st) M := by
  intro H locs ls hP hS hv
  have k2 := k H locs ls hP hS hv
  rw [← nI_clamp (Nat.lt_trans hx (by decide : 6 < 2 ^ 31))] at k2
  exact va_aldq C.1 C.2.1 C.K hP 76 3 (WS_get (by decide) rfl) rfl (vp_in_nI hx (by decide)) hd k2
theorem cell_76 {G : GG} {M : MM} {a x : Nat} : cellOf G (setP M (va_up M.2.2.1 a x)) 76 = .inl (G.2.1 3, 6, .inr (.inr (.inr (.inr (va_up (fun k => some (G.2.2 (8 * (3 + M.2.2.1 k)))) a (some (G.2.2 (8 * (3 + x))))))))) := by
  exact congrArg (fun f => (Sum.inl (G.2.1 3, 6, .inr (.inr (.inr (.inr f)))) : va_E)) (funext fun k => by
    show some (G.2.2 (8 * (3 + va_up M.2.2.1 a x k))) = va_up (fun k => some (G.2.2 (8 * (3 + M.2.2.1 k)))) a (some (G.2.2 (8 * (3 + x)))) k
    unfold va_up
    split <;> rfl)
theorem WS_setP {G : GG} {M : MM} {a x : Nat} {e : va_E} (hx : cellOf G (setP M (va_up M.2.2.1 a x)) 76 = e) : (WS G M).set 76 (G.2.2 76, e) = WS G (setP M (va_up M.2.2.1 a x)) := WS_set (by decide) (fun j hj => by
  unfold cellOf
  split
  · rfl
  · unfold cellX
    split <;> first | rfl | exact absurd rfl hj) hx
theorem j_aast76 (C : Cx G p s m args meth c A cc nL own Ts) {a x : Nat} (hd : decode cc pc = .ok (.aastore, 1)) (ha : a < 6) (hx : x < 6)
    (k : J G p l e R s m args below meth c A nL Q k9 n9 (pc + 1) lv st (setP M (va_up M.2.2.1 a x)))
    : J G p l e R s m args below meth c A nL Q k9 n9 pc lv (.ref (G.2.2 (8 * (3 + x))) :: .int (nI a) :: .ref (G.2.2 76) :: st) M := by
  intro H locs ls hP hS hv
  refine va_astq C.1 C.2.1 C.K hP C.D hS 76 3 (8 * (3 + x)) 0 (r := (RX0, TX0, 10)) (WS_get (by decide) rfl) rfl (WS_get (by unfold NN; omega) (cell_B (b := 3 + x) (by omega))) rfl (vp_in_nI ha (by decide)) hd (fun H1 locs1 hP1 _ hS1 => ?_)
  rw [nI_clamp (Nat.lt_trans ha (by decide : 6 < 2 ^ 31)), WS_setP cell_76] at hP1
  exact k H1 locs1 ls hP1 hS1 hv
theorem j_copyi (C : Cx G p s m args meth c A cc nL own Ts) {index i0 i1 n n0 n1 : Nat} (hd : decode cc pc = .ok (.invokestatic index, 3)) (h1 : Cond.methodLink own index arraycopyName ∈ Ts) (h2 : Cond.native arraycopyName ∈ Ts) (h3 : Cond.static arraycopyName ∈ Ts) (h4 : Cond.initialized "java/lang/System" ∈ Ts) (hi0 : ilen i0 = some n0) (hi1 : ilen i1 = some n1) (hn : n < 2 ^ 31) (hn0 : n ≤ n0) (hn1 : n ≤ n1) (hf : 1 ≤ R.frames) (hl : (st.map fun v => v.category).sum + (nativeFrameWords "java/lang/System" "arraycopy" 5 + 11) ≤ R.locals)
    (k : J G p l e R s m args below meth c A nL Q k9 n9 (pc + 3) lv st (setRow M i1 (va_cpy (M.1 i0) (M.1 i1) 0 0 n)))
    : J G p l e R s m args below meth c A nL Q k9 n9 pc lv (.int (nI n) :: .int (nI 0) :: .ref (G.2.2 i1) :: .int (nI 0) :: .ref (G.2.2 i0) :: st) M := by
  intro H locs ls hP hS hv
  have e0 : (nI 0).toNatClampNeg = 0 := by decide
  have en : (nI n).toNatClampNeg = n := nI_clamp hn
  refine va_copyi C.1 C.2.1 (C.2.2.1.trans hv.1.symm) C.2.2.2.1 (C.w h1) (C.w h2) (C.w h3) (C.w h4) C.K hP C.D hS i0 i1 0 0 (ty := .int) (WS_get (ilen_cell (G := G) (M := M) hi0).1 (ilen_cell hi0).2) (WS_get (ilen_cell (G := G) (M := M) hi1).1 (ilen_cell hi1).2) rfl rfl rfl (by decide) (by decide) (nI_pos hn) (by rw [e0, en]; omega) (by rw [e0, en]; omega) (fun _ _ => rfl) hf hl hd (fun H1 locs1 hP1 _ hS1 => ?_)
  rw [e0, en, WS_setRow (ilen_cell (G := G) (M := M) hi1).1 (by rw [(ilen_cell hi1).2, setRow_eq])] at hP1
  exact k H1 locs1 ls hP1 hS1 hv
end JM
