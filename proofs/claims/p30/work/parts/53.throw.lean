/-! methods that throw -/
def xSt : List (Nat × String) := [(305, "there is no such chart")]
def xB : List Cond := [.castable "java/lang/IndexOutOfBoundsException" "java/lang/IndexOutOfBoundsException", .declares (Bundle.initS "java/lang/RuntimeException"), .declares (Bundle.initS "java/lang/Exception"), .declares (Bundle.initS Bundle.tN)]
def xNc : List (String × String) := []
/-- what a throw needs of the start -/
def XW (A : Nat → Prop) (U : State) : Prop := (vx_Zq Bundle.tN "UNASSIGNED_STACK" Bundle.steD A U U.heap ∧ vx_Zq Bundle.tN "SUPPRESSED_SENTINEL" Bundle.listD A U U.heap) ∧ (∀ q ∈ xSt, ∃ sa : Nat, vk_R RX5 q.1 q.2 sa U) ∧ (∀ w ∈ xB, va_Nw w U) ∧ ∀ q ∈ xNc, va_Nc q.1 q.2 U
theorem xB_form : ∀ w ∈ xB, (∃ a b : String, w = .castable a b) ∨ ∃ x : MethodName, w = .declares x := by
  intro w hw
  simp only [xB, List.mem_cons, List.not_mem_nil, or_false] at hw
  rcases hw with h | h | h | h
  · exact Or.inl ⟨_, _, h⟩
  · exact Or.inr ⟨_, h⟩
  · exact Or.inr ⟨_, h⟩
  · exact Or.inr ⟨_, h⟩
theorem xB_warm {s U : State} (hW : s.WarmedH U.vm) {w : Cond} (hw : w ∈ xB) (h : va_Nw w s) : va_Nw w U := by
  rcases xB_form w hw with ⟨a, b, rfl⟩ | ⟨x, rfl⟩
  · exact va_Nw.warmC hW h
  · exact va_Nw.warmD hW h
theorem xB_ot : ∀ w ∈ xB, w.onTables = true := by
  intro w hw
  rcases xB_form w hw with ⟨a, b, rfl⟩ | ⟨x, rfl⟩ <;> rfl
theorem XW.at {A B : Nat → Prop} {s U : State} {H : Heap} {locs : List Loc} (h : XW A s) (hS : va_S A s.heap H locs) (hB : ∀ q, B q → A q) (hU : U.heap = H) (hW : s.WarmedH U.vm) : XW B U :=
  ⟨⟨by rw [hU]; exact ((h.1.1.kept hS.2.1).moved hW.alike).narrow hB, by rw [hU]; exact ((h.1.2.kept hS.2.1).moved hW.alike).narrow hB⟩, fun q hq => (h.2.1 q hq).imp (fun sa z => vk_R.warm hW z), fun w hw => xB_warm hW hw (h.2.2.1 w hw), fun q hq => va_Nc.moved hW.alike (h.2.2.2 q hq)⟩
theorem XW.calling {A : Nat → Prop} {U : State} {g : JFrame} {mk : MethodId} {a : Array Value} (h : XW A U) : XW A (U.calling g mk a) :=
  ⟨⟨vx_Zq.moved (u := U) (U := U.calling g mk a) (Vm.Alike.refl U.vm) h.1.1, vx_Zq.moved (u := U) (U := U.calling g mk a) (Vm.Alike.refl U.vm) h.1.2⟩, fun q hq => (h.2.1 q hq).imp (fun sa z => vk_R.same (u := U) (U := U.calling g mk a) rfl z), fun w hw => va_Nw.same (xB_ot w hw) (u := U) (U := U.calling g mk a) rfl (h.2.2.1 w hw), fun q hq => va_Nc.moved (u := U) (U := U.calling g mk a) (Vm.Alike.refl U.vm) (h.2.2.2 q hq)⟩
def rmX (d : Nat) : Room := { frames := d + 6, cells := 1, slots := 6, locals := 48 * d + 96 }
def NoQ : Array Value → State → Outcome → State → Prop := fun _ _ _ _ => False
def XT (G : GG) (M : MM) (E : String) (A : Nat → Prop) : String → State → State → Prop := fun E' st t => E' = E ∧ va_P G.1 vwCl (WS G M) t.heap ∧ va_F A st t
def WX (G : GG) (M : MM) (sz : Nat) (U : State) : Prop := U.heap.size = sz ∧ Wd G M U ∧ XW (AA G sz) U
/-- y throws E at these arguments, and the memory is as it was -/
def Tt (l : Launch) (G : GG) (y : MethodName) (ws : List Cond) (d : Nat) (args : List Value) (M : MM) (E : String) : Prop :=
  ∀ sz : Nat, vx_Met l y ws (rmX d) (va_Pc args (WX G M sz)) NoQ (XT G M E (AA G sz)) 1 6 (AA G sz)
/-- a contract of a method that catches what it calls -/
def Cw (l : Launch) (G : GG) (y : MethodName) (ws : List Cond) (d : Nat) (args : List Value) (M : MM) (Qf : Option Value → MM → Prop) : Prop :=
  ∀ sz : Nat, Met l y ws (rmX d) (va_Pc args (WX G M sz)) (QQ G Qf (AA G sz)) 1 6 (AA G sz)
theorem WX.blind {G : GG} {M : MM} {args : List Value} {sz : Nat} : FrameBlind (va_Pc args (WX G M sz)) := fun a U g mk q => by
  obtain ⟨q0, q1, ⟨qP, qK, qD⟩, qX⟩ := q
  exact ⟨q0, q1, ⟨qP, qK.calling, qD⟩, qX.calling⟩
theorem AA_sub {G : GG} {A : Nat → Prop} {s : State} {H : Heap} (h1 : ∀ i, i < NN → A (G.2.2 i)) (h2 : ∀ q, s.heap.size ≤ q → A q) (h : s.heap.size ≤ H.size) : ∀ q, AA G H.size q → A q := by
  rintro q (⟨i, hi, rfl⟩ | h3)
  · exact h1 i hi
  · exact h2 q (Nat.le_trans h h3)
theorem Tt.of {l : Launch} {G : GG} {y : MethodName} {ws ws' : List Cond} {d : Nat} {av : List Value} {M : MM} {E : String} {cc : ByteArray} {maxL : Nat} {ret : Option FieldType} {lv : List (Nat × Value)} (hy : plainName y.cls = true) (hw : ws = Cond.code y cc maxL ret :: ws') (hlv : lv_args 0 av = lv) (hlen : (lg_sl av).length ≤ maxL)
    (body : ∀ (p : Program) (e : Env) (s : State) (m : MethodId) (below : List Frame) (meth : Method) (c : Code) (A : Nat → Prop), Cx G p s m av.toArray meth c A cc maxL y.cls ws → XW A s → (∀ x ∈ c.exceptionTable.toList, False) → J G p l e (rmX d) s m av.toArray below meth c A maxL (vx_MQ below NoQ (XT G M E A) av.toArray s 1 6 A) 0 0 0 lv [] M) : Tt l G y ws d av M E := by
  intro sz
  refine vx_ofW (cc := cc) (maxL := maxL) (ret := ret) hy hw ?_
  intro p e s m args below meth c s₁ B hml htab hv
  obtain ⟨rfl, hsz, ⟨hP, hK, hg⟩, hX⟩ := hv
  subst hsz
  have C : Cx G p s m av.toArray meth c (AA G s.heap.size) cc maxL y.cls ws := ⟨B.exec, B.bytes, hml, findClass_of_methodNamed B.named, atoms_spec (ws := ws) B.pre, B.notSynchronized, hK, hg, fun i hi => Or.inl ⟨i, hi, rfl⟩, fun q h => Or.inr h⟩
  have hl := lv_entry av hlen
  rw [hlv] at hl
  rw [lg_entry_eq]
  exact body p e s m below meth c _ C hX htab s.heap [] _ hP va_S.rf hl
theorem Cw.of {l : Launch} {G : GG} {y : MethodName} {ws ws' : List Cond} {d : Nat} {av : List Value} {M : MM} {Qf : Option Value → MM → Prop} {cc : ByteArray} {maxL : Nat} {ret : Option FieldType} {hh : List (Nat × Nat × Nat × Nat)} {lv : List (Nat × Value)} (hy : plainName y.cls = true) (hw : ws = Cond.codeWith y cc maxL ret hh :: ws') (hlv : lv_args 0 av = lv) (hlen : (lg_sl av).length ≤ maxL)
    (body : ∀ (p : Program) (e : Env) (s : State) (m : MethodId) (below : List Frame) (meth : Method) (c : Code) (A : Nat → Prop), Cx G p s m av.toArray meth c A cc maxL y.cls ws → XW A s → c.exceptionTable.toList = tableOf hh → meth.sig.returnType = ret → J G p l e (rmX d) s m av.toArray below meth c A maxL (MQ below (QQ G Qf A) av.toArray s 1 6 A) 0 0 0 lv [] M) : Cw l G y ws d av M Qf := by
  intro sz
  refine MetFree.of_bodyS (code := cc) (maxLocals := maxL) (ret := ret) hy ?_ ?_
  · intro args s m h hn
    obtain ⟨m9, meth, c, hn9, h1, h2, h3, h4, -, h5, h6, -⟩ := Cond.codeWith_spec (atoms_spec (ws := ws) h _ (by rw [hw]; exact List.mem_cons_self))
    cases hn.symm.trans hn9
    exact ⟨meth, c, h1, h2, h3, h4, h5, h6⟩
  · intro p e s m args below meth c s₁ B hml hv _
    obtain ⟨rfl, hsz, ⟨hP, hK, hg⟩, hX⟩ := hv
    subst hsz
    have hts := atoms_spec (ws := ws) B.pre
    have htab : c.exceptionTable.toList = tableOf hh := vx_table (x := y) B (hts _ (by rw [hw]; exact List.mem_cons_self))
    have C : Cx G p s m av.toArray meth c (AA G s.heap.size) cc maxL y.cls ws := ⟨B.exec, B.bytes, hml, findClass_of_methodNamed B.named, hts, B.notSynchronized, hK, hg, fun i hi => Or.inl ⟨i, hi, rfl⟩, fun q h => Or.inr h⟩
    have hl := lv_entry av hlen
    rw [hlv] at hl
    have hh0 : s₁.heap = s.heap := by rw [B.state]; rfl
    have K : W p l e (headSpec ws (rmX d)).room s m av.toArray below meth c s.heap [] 0 0 (MQ below (QQ G Qf (AA G s.heap.size)) av.toArray s 1 6 (AA G s.heap.size)) (entryFrame m av.toArray maxL) := by
      rw [lg_entry_eq]
      exact body p e s m below meth c _ C hX htab B.returns s.heap [] _ hP va_S.rf hl
    obtain ⟨t, a1, o, b1, b2, b3⟩ := K s₁ hh0 (Stand.of_body B)
    exact ⟨t, o, a1, b1, b2, ⟨b3.1, b3.2⟩⟩
section JT
variable {G : GG} {p : Program} {l : Launch} {e : Env} {R : Room} {s : State} {m : MethodId} {args : Array Value} {below : List Frame} {meth : Method} {c : Code} {A : Nat → Prop} {nL : Nat} {Q : State → Prop} {k9 n9 pc : Nat} {lv : List (Nat × Value)} {st : List Value} {M : MM} {cc : ByteArray} {own : String} {Ts : List Cond}
theorem j_widen {k n : Nat} (h1 : k9 ≤ k) (h2 : n9 ≤ n) (k9k : J G p l e R s m args below meth c A nL Q k n pc lv st M) : J G p l e R s m args below meth c A nL Q k9 n9 pc lv st M :=
  fun H locs ls hP hS hv => W.widen h1 h2 (k9k H locs ls hP hS hv)
def xN : List String := ["java/lang/RuntimeException", "java/lang/Exception"]
theorem xN_fit : ∀ n ∈ xN, Bundle.fit n = true := by decide +kernel
/-- the words of a throw of cls by the constructor that RX5's entry ic names -/
def thW (ik ic : Nat) (cls : String) (Ts : List Cond) : Prop := Bundle.fit cls = true ∧ Cond.classLink RX5 ik cls ∈ Ts ∧ Cond.initialized cls ∈ Ts ∧ (∀ w ∈ (vx_atS RX5 ic cls xN).filter goodWord, w ∈ Ts) ∧ (∀ w ∈ (vx_atS RX5 ic cls xN).filter (fun w => !goodWord w), w ∈ xB) ∧ ∀ w ∈ Cond.classLink RX5 ik cls :: Cond.initialized cls :: vx_atS RX5 ic cls xN, vx_ot w = true
theorem j_throwW (C : Cx G p s m args meth c A cc nL RX5 Ts) (hX : XW A s) (ht : ∀ x ∈ c.exceptionTable.toList, False) (hl : l.stackTraces = false) {ik is ic : Nat} {E text : String} (hw : thW ik ic E Ts) (hstr : (is, text) ∈ xSt)
    (d0 : decode cc pc = .ok (.new ik, 3)) (d3 : decode cc (pc + 3) = .ok (.dup, 1)) (d4 : decode cc (pc + 4) = .ok (.ldc_w is, 3)) (d7 : decode cc (pc + 7) = .ok (.invokespecial ic, 3)) (d10 : decode cc (pc + 10) = .ok (.athrow, 1)) (hR : 5 < R.frames ∧ 82 ≤ R.locals ∧ 1 ≤ R.cells ∧ 6 ≤ R.slots) : J G p l e R s m args below meth c A nL (vx_MQ below NoQ (XT G M E A) args s 1 6 A) 0 0 pc lv [] M := by
  intro H locs ls hP hS hv
  obtain ⟨w1, w2, w3, w4, w5, w6⟩ := hw
  obtain ⟨sa, hsa⟩ := hX.2.1 _ hstr
  exact vx_throwSW (names := xN) C.1 C.2.1 hl C.2.2.2.1 w1 xN_fit (C.w w2) (C.w w3) hsa (vx_hat (fun w h => C.w (w4 w h)) w5 (fun w h => va_Nw.use (xB_ot w h) (hX.2.2.1 w h))) w6 hX.1.1 hX.1.2 hS (hv.1.trans C.2.2.1.symm) d0 d3 d4 d7 d10 (fun x hx => (ht x hx).elim) hR.1 hR.2.1 hR.2.2.1 hR.2.2.2 C.2.2.2.2.2.1
    (fun t _ hz hq => ⟨rfl, hP.kept (fun k q hk => hq q.1 ((hP k q hk).lt)), Nat.le_trans hS.1 hz, fun q h1 h2 => (hq q (Nat.lt_of_lt_of_le h1 hS.1)).trans (hS.2.1 q h1 h2)⟩) hS.2.2 (Nat.le_refl _) (Nat.le_refl _)
theorem j_throwS (C : Cx G p s m args meth c A cc nL RX5 Ts) (hX : XW A s) (ht : ∀ x ∈ c.exceptionTable.toList, False) (hl : l.stackTraces = false) {ik is ic : Nat} {E text : String} (hw : thW ik ic E Ts) (hstr : (is, text) ∈ xSt)
    (d0 : decode cc pc = .ok (.new ik, 3)) (d3 : decode cc (pc + 3) = .ok (.dup, 1)) (d4 : decode cc (pc + 4) = .ok (.ldc is, 2)) (d6 : decode cc (pc + 6) = .ok (.invokespecial ic, 3)) (d9 : decode cc (pc + 9) = .ok (.athrow, 1)) (hR : 5 < R.frames ∧ 82 ≤ R.locals ∧ 1 ≤ R.cells ∧ 6 ≤ R.slots) : J G p l e R s m args below meth c A nL (vx_MQ below NoQ (XT G M E A) args s 1 6 A) 0 0 pc lv [] M := by
  intro H locs ls hP hS hv
  obtain ⟨w1, w2, w3, w4, w5, w6⟩ := hw
  obtain ⟨sa, hsa⟩ := hX.2.1 _ hstr
  exact vx_throwS (names := xN) C.1 C.2.1 hl C.2.2.2.1 w1 xN_fit (C.w w2) (C.w w3) hsa (vx_hat (fun w h => C.w (w4 w h)) w5 (fun w h => va_Nw.use (xB_ot w h) (hX.2.2.1 w h))) w6 hX.1.1 hX.1.2 hS (hv.1.trans C.2.2.1.symm) d0 d3 d4 d6 d9 (fun x hx => (ht x hx).elim) hR.1 hR.2.1 hR.2.2.1 hR.2.2.2 C.2.2.2.2.2.1
    (fun t _ hz hq => ⟨rfl, hP.kept (fun k q hk => hq q.1 ((hP k q hk).lt)), Nat.le_trans hS.1 hz, fun q h1 h2 => (hq q (Nat.lt_of_lt_of_le h1 hS.1)).trans (hS.2.1 q h1 h2)⟩) hS.2.2 (Nat.le_refl _) (Nat.le_refl _)
/-- behind a callee that throws, in a method without a table -/
theorem j_outX (C : Cx G p s m args meth c A cc nL own Ts) (ht : ∀ x ∈ c.exceptionTable.toList, False) {E : String} {rest st0 : List Value} {a9 : Array Value}
    (hr : ∀ (H : Heap) (locs : List Loc) (ls : Array Slot), va_P G.1 vwCl (WS G M) H → va_S A s.heap H locs → lv_has ls nL lv → vx_Run p l e R s m args below meth c H locs 0 0 1 6 (F0 m pc ls st0) rest (NoQ a9) (XT G M E (AA G H.size)) (AA G H.size)) : J G p l e R s m args below meth c A nL (vx_MQ below NoQ (XT G M E A) args s 1 6 A) 0 0 pc lv st0 M := by
  intro H locs ls hP hS hv T hT X
  have hA := AA_sub C.2.2.2.2.2.2.2.2.1 C.2.2.2.2.2.2.2.2.2 hS.1
  rcases hr H locs ls hP hS hv T hT X with ⟨v, st₀, t, T', L, h0, X', hL, e1, e2, hq, st⟩ | ⟨q, st₀, t, T', L, E', ce, h0, X', hL, e1, e2, ⟨rfl, hP1, hF⟩, hce, hcv, hcl, st⟩
  · exact hq.elim
  · obtain ⟨k1, k2, k3⟩ := vx_keep h0 e1 hS (fun q _ h => hA q h) hA hL hF
    obtain ⟨t2, a1, b1⟩ := vx_out (pc := pc) (ls := ls) (rest := rest) (Qc := NoQ) (XC := XT G M E' A) (mc := 1) (ms := 6) (free := A) (fun x hx => (ht x hx).elim) C.2.2.2.2.2.1 (by rw [e1]; exact hce) hcv hcl (fun t9 ht9 _ => ⟨rfl, by rw [ht9, e1]; exact hP1, k3.F ht9⟩) k3.2.2 (Nat.le_refl _) (Nat.le_refl _) T' rfl X'
    exact ⟨t2, st.trans a1, b1⟩
theorem j_callXS (C : Cx G p s m args meth c A cc nL own Ts) (hX : XW A s) (ht : ∀ x ∈ c.exceptionTable.toList, False) {E : String} {index d maxL n : Nat} {As rest st0 : List Value} {y : MethodName} {ws' ws2 : List Cond} {bytes : ByteArray} {ret : Option FieldType}
    (hC : Tt l G y ws' d As M E) (hd : decode cc pc = .ok (.invokestatic index, 3)) (hG : GoodIn Ts (va_wsS own index y ws')) (hw : ws' = Cond.code y bytes maxL ret :: ws2)
    (hy : y.cls ≠ "java/lang/invoke/MethodHandle" ∧ y.cls ≠ "java/lang/invoke/VarHandle" ∧ (parseMethodDescriptor y.desc).map (fun d => d.parameters.length) = some n) (hn : As.length = n) (hst : st0 = As.reverse ++ rest) (hcat : (rest.map fun v => v.category).sum ≤ 8) (hR : (rmX d).frames + 1 ≤ R.frames ∧ 8 + (maxL + 11) + (rmX d).locals ≤ R.locals) (hkn : 1 ≤ R.cells ∧ 6 ≤ R.slots) : J G p l e R s m args below meth c A nL (vx_MQ below NoQ (XT G M E A) args s 1 6 A) 0 0 pc lv st0 M := by
  refine j_outX C ht (rest := rest) (a9 := As.toArray) (fun H locs ls hP hS hv => ?_)
  have hA := AA_sub C.2.2.2.2.2.2.2.2.1 C.2.2.2.2.2.2.2.2.2 hS.1
  exact vx_runS (As := As) (rest := rest) ⟨C.1, C.2.1, C.2.2.1, C.2.2.2.1, C.2.2.2.2.1⟩ (hC H.size) (va_cwS n C.2.2.2.2.1 hG hw rfl rfl hy hR) ⟨WX.blind, fun U hU hW => ⟨rfl, by rw [hU], ⟨by rw [hU]; exact hP, C.2.2.2.2.2.2.1.warm hW, C.2.2.2.2.2.2.2.1⟩, hX.at hS hA hU hW⟩⟩ rfl hn hv.1 hst (lv_room hcat) hd hkn
theorem j_callXV (C : Cx G p s m args meth c A cc nL own Ts) (hX : XW A s) (ht : ∀ x ∈ c.exceptionTable.toList, False) {E : String} {i ci index d maxL n : Nat} {As rest st0 fs : List Value} {y : MethodName} {ws' ws2 : List Cond} {bytes : ByteArray} {ret : Option FieldType} {D9 : String} {T : u_T} {N : Nat}
    (hC : Tt l G y ws' d (.ref (G.2.2 i) :: As) M E) (hd : decode cc pc = .ok (.invokevirtual index, 3)) (hc : cellOf G M i = .inr (ci, fs)) (hi : i < NN) (hcl : vwCl[ci]? = some (D9, T, N)) (hG : GoodIn Ts (wsV own index D9 y ws')) (hw : ws' = Cond.code y bytes maxL ret :: ws2)
    (hy : y.cls = D9 ∧ y.cls ≠ "java/lang/invoke/MethodHandle" ∧ y.cls ≠ "java/lang/invoke/VarHandle" ∧ (parseMethodDescriptor y.desc).map (fun d => d.parameters.length) = some n) (hn : As.length = n) (hst : st0 = As.reverse ++ .ref (G.2.2 i) :: rest) (hcat : (rest.map fun v => v.category).sum ≤ 8) (hR : (rmX d).frames + 1 ≤ R.frames ∧ 8 + (maxL + 11) + (rmX d).locals ≤ R.locals) (hkn : 1 ≤ R.cells ∧ 6 ≤ R.slots) : J G p l e R s m args below meth c A nL (vx_MQ below NoQ (XT G M E A) args s 1 6 A) 0 0 pc lv st0 M := by
  refine j_outX C ht (rest := rest) (a9 := (Value.ref (G.2.2 i) :: As).toArray) (fun H locs ls hP hS hv => ?_)
  have hA := AA_sub C.2.2.2.2.2.2.2.2.1 C.2.2.2.2.2.2.2.2.2 hS.1
  exact vx_runV (As := As) (rest := rest) ⟨C.1, C.2.1, C.2.2.1, C.2.2.2.1, C.2.2.2.2.1⟩ (hC H.size) (cwV n C.2.2.2.2.1 hG hw rfl rfl hy hR) ⟨WX.blind, va_recv C.K hP hcl (WS_get hi hc), fun U hU hW => ⟨rfl, by rw [hU], ⟨by rw [hU]; exact hP, C.2.2.2.2.2.2.1.warm hW, C.2.2.2.2.2.2.2.1⟩, hX.at hS hA hU hW⟩⟩ rfl hn hv.1 hst (lv_room hcat) hd hkn
/-- a callee that throws, caught by the row x of this method's table; the rows ahead name other classes -/
theorem j_callCV (C : Cx G p s m args meth c A cc nL own Ts) (hX : XW A s) {E : String} {i ci index d maxL n : Nat} {As rest st0 fs : List Value} {y : MethodName} {ws' ws2 : List Cond} {bytes : ByteArray} {ret : Option FieldType} {D9 : String} {T : u_T} {N : Nat}
    (pre : List ExceptionTableEntry) (x : ExceptionTableEntry) (suf : List ExceptionTableEntry) (hsplit : c.exceptionTable.toList = pre ++ x :: suf)
    (hpass : ∀ z ∈ pre, covers z pc = false ∨ (z.catchType ≠ 0 ∧ ∃ nm : String, Cond.classLink own z.catchType nm ∈ Ts ∧ (E, nm) ∈ xNc)) (hx : covers x pc = true) (h0 : x.catchType ≠ 0)
    (hlink : Cond.classLink own x.catchType E ∈ Ts) (hcast : Cond.castable E E ∈ xB)
    (hC : Tt l G y ws' d (.ref (G.2.2 i) :: As) M E) (hd : decode cc pc = .ok (.invokevirtual index, 3)) (hc : cellOf G M i = .inr (ci, fs)) (hi : i < NN) (hcl : vwCl[ci]? = some (D9, T, N)) (hG : GoodIn Ts (wsV own index D9 y ws')) (hw : ws' = Cond.code y bytes maxL ret :: ws2)
    (hy : y.cls = D9 ∧ y.cls ≠ "java/lang/invoke/MethodHandle" ∧ y.cls ≠ "java/lang/invoke/VarHandle" ∧ (parseMethodDescriptor y.desc).map (fun d => d.parameters.length) = some n) (hn : As.length = n) (hst : st0 = As.reverse ++ .ref (G.2.2 i) :: rest) (hcat : (rest.map fun v => v.category).sum ≤ 8) (hR : (rmX d).frames + 1 ≤ R.frames ∧ 8 + (maxL + 11) + (rmX d).locals ≤ R.locals) (hkn : k9 + 1 ≤ R.cells ∧ n9 + 6 ≤ R.slots)
    (k : ∀ q : Nat, J G p l e R s m args below meth c A nL Q (k9 + 1) (n9 + 6) x.handlerPc lv [.ref q] M) : J G p l e R s m args below meth c A nL Q k9 n9 pc lv st0 M := by
  intro H locs ls hP hS hv
  have hA := AA_sub C.2.2.2.2.2.2.2.2.1 C.2.2.2.2.2.2.2.2.2 hS.1
  have hr := vx_runV (R := R) (H := H) (cells := k9) (slots := n9) (g := F0 m pc ls st0) (As := As) (rest := rest) (l := l) (e := e) (below := below) (meth := meth) (locs := locs) ⟨C.1, C.2.1, C.2.2.1, C.2.2.2.1, C.2.2.2.2.1⟩ (hC H.size) (cwV n C.2.2.2.2.1 hG hw rfl rfl hy hR) ⟨WX.blind, va_recv C.K hP hcl (WS_get hi hc), fun U hU hW => ⟨rfl, by rw [hU], ⟨by rw [hU]; exact hP, C.2.2.2.2.2.2.1.warm hW, C.2.2.2.2.2.2.2.1⟩, hX.at hS hA hU hW⟩⟩ rfl hn hv.1 hst (lv_room hcat) hd hkn
  intro T hT X
  rcases hr T hT X with ⟨v, st₀, t, T', L, h9, X', hL, e1, e2, hq, st⟩ | ⟨q, st₀, t, T', L, E', ce, h9, X', hL, e1, e2, ⟨rfl, hP1, hF⟩, hce, hcv, hcl, st⟩
  · exact hq.elim
  · obtain ⟨k1, k2, k3⟩ := vx_keep h9 e1 hS (fun q _ h => hA q h) hA hL hF
    obtain ⟨t2, a1, b1⟩ := vx_catch (pc := pc) (ls := ls) (rest := rest) C.2.2.2.1 pre x suf hsplit (fun z hz => (hpass z hz).imp id (fun ⟨z0, nm, z1, z2⟩ => ⟨z0, nm, C.w z1, hX.2.2.2 _ z2⟩)) hx h0 (C.w hlink) (va_Nw.use (xB_ot _ hcast) (hX.2.2.1 _ hcast)) (by rw [e1]; exact hce) hcv hcl (k q T'.heap (locs ++ L) ls (by rw [e1]; exact hP1) k3 hv) T' rfl X'
    exact ⟨t2, st.trans a1, b1⟩
end JT
