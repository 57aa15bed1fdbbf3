/-! a method with a table, for arguments at which nothing is thrown -/
theorem Ct.ofH {l : Launch} {G : GG} {y : MethodName} {ws ws' : List Cond} {d : Nat} {av : List Value} {M : MM} {Qf : Option Value → MM → Prop} {cc : ByteArray} {maxL : Nat} {ret : Option FieldType} {hh : List (Nat × Nat × Nat × Nat)} {lv : List (Nat × Value)} (hy : plainName y.cls = true) (hw : ws = Cond.codeWith y cc maxL ret hh :: ws') (hlv : lv_args 0 av = lv) (hlen : (lg_sl av).length ≤ maxL)
    (body : ∀ (p : Program) (e : Env) (s : State) (m : MethodId) (below : List Frame) (meth : Method) (c : Code) (A : Nat → Prop), Cx G p s m av.toArray meth c A cc maxL y.cls ws → meth.sig.returnType = ret → J G p l e (rmD d) s m av.toArray below meth c A maxL (MQ below (QQ G Qf A) av.toArray s 0 0 A) 0 0 0 lv [] M) : Ct l G y ws d av M Qf := by
  intro sz
  refine MetFree.of_bodyS (code := cc) (maxLocals := maxL) (ret := ret) hy ?_ ?_
  · intro args s m h hn
    obtain ⟨m9, meth, c, hn9, h1, h2, h3, h4, -, h5, h6, -⟩ := Cond.codeWith_spec (atoms_spec (ws := ws) h _ (by rw [hw]; exact List.mem_cons_self))
    cases hn.symm.trans hn9
    exact ⟨meth, c, h1, h2, h3, h4, h5, h6⟩
  · intro p e s m args below meth c s₁ B hml hv _
    obtain ⟨rfl, hsz, hP, hK, hg⟩ := hv
    subst hsz
    have hts := atoms_spec (ws := ws) B.pre
    have C : Cx G p s m av.toArray meth c (AA G s.heap.size) cc maxL y.cls ws := ⟨B.exec, B.bytes, hml, findClass_of_methodNamed B.named, hts, B.notSynchronized, hK, hg, fun i hi => Or.inl ⟨i, hi, rfl⟩, fun q h => Or.inr h⟩
    have hl := lv_entry av hlen
    rw [hlv] at hl
    have hh0 : s₁.heap = s.heap := by rw [B.state]; rfl
    have K : W p l e (headSpec ws (rmD d)).room s m av.toArray below meth c s.heap [] 0 0 (MQ below (QQ G Qf (AA G s.heap.size)) av.toArray s 0 0 (AA G s.heap.size)) (entryFrame m av.toArray maxL) := by
      rw [lg_entry_eq]
      exact body p e s m below meth c _ C B.returns s.heap [] _ hP va_S.rf hl
    obtain ⟨t, a1, o, b1, b2, b3⟩ := K s₁ hh0 (Stand.of_body B)
    exact ⟨t, o, a1, b1, b2, ⟨b3.1, b3.2⟩⟩
theorem oI_neg {a : Nat} (h : a < 2 ^ 31) : oI a < 0 ↔ a = 0 := by
  cases a with
  | zero => exact ⟨fun _ => rfl, fun _ => by decide⟩
  | succ n => exact ⟨fun q => absurd q (nI_pos (n := n) (by omega)), fun q => by omega⟩
/-- the low 31 bits -/
theorem and31 (v : Int32) : v &&& 2147483647 = nI (v.toBitVec.toNat &&& 2147483647) := by
  apply Int32.toBitVec_inj.mp
  apply BitVec.eq_of_toNat_eq
  have h : v.toBitVec.toNat &&& 2147483647 < 2 ^ 32 := Nat.lt_of_le_of_lt Nat.and_le_right (by decide)
  rw [Int32.toBitVec_and, BitVec.toNat_and, pk_tn h]
  rfl
def lw (v : Int32) (n : Nat) : Nat := (v.toBitVec.toNat &&& 2147483647) % n
theorem lw_lt {v : Int32} {n : Nat} (h : 0 < n) : lw v n < n := Nat.mod_lt _ h
section JH
variable {G : GG} {p : Program} {l : Launch} {e : Env} {R : Room} {s : State} {m : MethodId} {args : Array Value} {below : List Frame} {meth : Method} {c : Code} {A : Nat → Prop} {nL : Nat} {Q : State → Prop} {k9 n9 pc : Nat} {lv : List (Nat × Value)} {st : List Value} {M : MM} {cc : ByteArray} {own : String} {Ts : List Cond} {Qf : Option Value → MM → Prop}
theorem j_callSH (C : Cx G p s m args meth c A cc nL own Ts) {index d maxL n : Nat} {hh : List (Nat × Nat × Nat × Nat)} {As rest st0 : List Value} {y : MethodName} {ws' ws2 : List Cond} {bytes : ByteArray} {ret : Option FieldType}
    (hC : Ct l G y ws' d As M Qf) (hd : decode cc pc = .ok (.invokestatic index, 3)) (hG : GoodIn Ts (va_wsS own index y ws')) (hw : ws' = Cond.codeWith y bytes maxL ret hh :: ws2)
    (hy : y.cls ≠ "java/lang/invoke/MethodHandle" ∧ y.cls ≠ "java/lang/invoke/VarHandle" ∧ (parseMethodDescriptor y.desc).map (fun d => d.parameters.length) = some n) (hn : As.length = n) (hst : st0 = As.reverse ++ rest) (hcat : (rest.map fun v => v.category).sum ≤ 8) (hR : (rmD d).frames + 1 ≤ R.frames ∧ 8 + (maxL + 11) + (rmD d).locals ≤ R.locals) (hkn : k9 ≤ R.cells ∧ n9 ≤ R.slots)
    (k : ∀ (v : Option Value) (M' : MM), Qf v M' → J G p l e R s m args below meth c A nL Q k9 n9 (pc + 3) lv (v.toList ++ rest) M') : J G p l e R s m args below meth c A nL Q k9 n9 pc lv st0 M := by
  refine j_run C (rest := rest) (a9 := As.toArray) (fun H locs ls hP hS hv => ?_) k
  exact vx_runSW (As := As) (rest := rest) ⟨C.1, C.2.1, C.2.2.1, C.2.2.2.1, C.2.2.2.2.1⟩ (hC H.size) (vx_cwSW n C.2.2.2.2.1 hG hw rfl rfl hy hR) ⟨Wd.blind, fun U hU hW => ⟨rfl, by rw [hU], by rw [hU]; exact hP, C.2.2.2.2.2.2.1.warm hW, C.2.2.2.2.2.2.2.1⟩⟩ rfl hn hv.1 hst (lv_room hcat) hd hkn
/-- behind a run of a callee that makes cells -/
theorem j_runK (C : Cx G p s m args meth c A cc nL own Ts) {mc ms : Nat} {rest st0 : List Value} {a9 : Array Value}
    (hr : ∀ (H : Heap) (locs : List Loc) (ls : Array Slot), va_P G.1 vwCl (WS G M) H → va_S A s.heap H locs → lv_has ls nL lv → va_Run p l e R s m args below meth c H locs k9 n9 mc ms (F0 m pc ls st0) rest (QQ G Qf (AA G H.size) a9) (AA G H.size))
    (k : ∀ (v : Option Value) (M' : MM), Qf v M' → J G p l e R s m args below meth c A nL Q (k9 + mc) (n9 + ms) (pc + 3) lv (v.toList ++ rest) M') : J G p l e R s m args below meth c A nL Q k9 n9 pc lv st0 M := by
  intro H locs ls hP hS hv T hT X
  obtain ⟨v, s9, t, T', L, h0, X', hL, e1, e2, ⟨⟨v', M', hv', hq, hP1⟩, hz, hk⟩, st9⟩ := hr H locs ls hP hS hv T hT X
  cases hv'
  rw [h0] at hz hk
  have hA : ∀ q, AA G H.size q → A q := by
    intro q hq
    rcases hq with ⟨i, hi, rfl⟩ | h
    · exact C.2.2.2.2.2.2.2.2.1 i hi
    · exact C.2.2.2.2.2.2.2.2.2 q (Nat.le_trans hS.1 h)
  obtain ⟨t2, a1, b1⟩ := k v M' hq T'.heap (locs ++ L) ls (by rw [e1]; exact hP1)
    ⟨Nat.le_trans hS.1 (by rw [e1]; exact hz), fun q h1 h2 => by rw [e1, hk q (Nat.lt_of_lt_of_le h1 hS.1) (fun z => h2 (hA q z))]; exact hS.2.1 q h1 h2, fun q hq => by
      rcases List.mem_append.mp hq with h | h
      · exact hS.2.2 q h
      · exact hA _ (hL q h)⟩ hv T' rfl X'
  exact ⟨t2, st9 t2 a1, b1⟩
theorem j_sld (C : Cx G p s m args meth c A cc nL own Ts) {b L a : Nat} {xs : Nat → Int32} (hX9 : va_X b L xs s s.heap) (hbl : b < s.heap.size) (hbA : ¬ A b) (hd : decode cc pc = .ok (.iaload, 1)) (ha : a < L) (hL : L < 2 ^ 31)
    (k : J G p l e R s m args below meth c A nL Q k9 n9 (pc + 1) lv (.int (xs a) :: st) M)
    : J G p l e R s m args below meth c A nL Q k9 n9 pc lv (.int (nI a) :: .ref b :: st) M := by
  intro H locs ls hP hS hv
  have k2 := k H locs ls hP hS hv
  rw [← nI_clamp (Nat.lt_trans ha hL)] at k2
  exact va_sld C.1 C.2.1 hX9 hbl hbA hS (vp_in_nI ha hL) hd k2
theorem j_slen (C : Cx G p s m args meth c A cc nL own Ts) {b L : Nat} {xs : Nat → Int32} (hX9 : va_X b L xs s s.heap) (hbl : b < s.heap.size) (hbA : ¬ A b) (hd : decode cc pc = .ok (.arraylength, 1))
    (k : J G p l e R s m args below meth c A nL Q k9 n9 (pc + 1) lv (.int (nI L) :: st) M)
    : J G p l e R s m args below meth c A nL Q k9 n9 pc lv (.ref b :: st) M := by
  intro H locs ls hP hS hv
  exact va_slen C.1 C.2.1 hX9 hbl hbA hS hd (k H locs ls hP hS hv)
end JH
/-! a method that reads the script -/
def Ws (G : GG) (M : MM) (b L : Nat) (xs : Nat → Int32) (sz : Nat) (U : State) : Prop := U.heap.size = sz ∧ Wd G M U ∧ va_X b L xs U U.heap ∧ b < sz ∧ ∀ i, i < NN → G.2.2 i ≠ b
def Cs (l : Launch) (G : GG) (y : MethodName) (ws : List Cond) (d : Nat) (args : List Value) (M : MM) (b L : Nat) (xs : Nat → Int32) (Qf : Option Value → MM → Prop) : Prop :=
  ∀ sz : Nat, Met l y ws (rmD d) (va_Pc args (Ws G M b L xs sz)) (QQ G Qf (AA G sz)) 0 0 (AA G sz)
theorem Ws.blind {G : GG} {M : MM} {b L : Nat} {xs : Nat → Int32} {args : List Value} {sz : Nat} : FrameBlind (va_Pc args (Ws G M b L xs sz)) := fun a U g mk q => by
  obtain ⟨q0, q1, ⟨qP, qK, qD⟩, qX, qb⟩ := q
  exact ⟨q0, q1, ⟨qP, qK.calling, qD⟩, va_X.moved (u := U) (U := U.calling g mk a) (Vm.Alike.refl U.vm) qX, qb⟩
theorem Cs.of {l : Launch} {G : GG} {y : MethodName} {ws ws' : List Cond} {d b L : Nat} {xs : Nat → Int32} {av : List Value} {M : MM} {Qf : Option Value → MM → Prop} {cc : ByteArray} {maxL : Nat} {ret : Option FieldType} {lv : List (Nat × Value)} (hy : plainName y.cls = true) (hw : ws = Cond.code y cc maxL ret :: ws') (hlv : lv_args 0 av = lv) (hlen : (lg_sl av).length ≤ maxL)
    (body : ∀ (p : Program) (e : Env) (s : State) (m : MethodId) (below : List Frame) (meth : Method) (c : Code) (A : Nat → Prop), Cx G p s m av.toArray meth c A cc maxL y.cls ws → va_X b L xs s s.heap → b < s.heap.size → ¬ A b → meth.sig.returnType = ret → J G p l e (rmD d) s m av.toArray below meth c A maxL (MQ below (QQ G Qf A) av.toArray s 0 0 A) 0 0 0 lv [] M) : Cs l G y ws d av M b L xs Qf := by
  intro sz
  refine Met.ofW (cc := cc) (maxL := maxL) (ret := ret) hy hw ?_
  intro p e s m args below meth c s₁ B hml hv
  obtain ⟨rfl, hsz, ⟨hP, hK, hg⟩, hX, hb, hne⟩ := hv
  subst hsz
  have C : Cx G p s m av.toArray meth c (AA G s.heap.size) cc maxL y.cls ws := ⟨B.exec, B.bytes, hml, findClass_of_methodNamed B.named, atoms_spec (ws := ws) B.pre, B.notSynchronized, hK, hg, fun i hi => Or.inl ⟨i, hi, rfl⟩, fun q h => Or.inr h⟩
  have hl := lv_entry av hlen
  rw [hlv] at hl
  rw [lg_entry_eq]
  exact body p e s m below meth c _ C hX hb (fun h => by
    rcases h with ⟨i, hi, e⟩ | h
    · exact hne i hi e.symm
    · exact Nat.not_le.mpr hb h) B.returns s.heap [] _ hP va_S.rf hl
/-! a method that makes one row of 64 ints -/
def rmH (d : Nat) : Room := { frames := d, cells := 1, slots := 64, locals := 48 * d }
def Ch (l : Launch) (G : GG) (y : MethodName) (ws : List Cond) (d : Nat) (args : List Value) (M : MM) (Qf : Option Value → MM → Prop) : Prop :=
  ∀ sz : Nat, Met l y ws (rmH d) (va_Pc args (fun U => U.heap.size = sz ∧ Wd G M U)) (QQ G Qf (AA G sz)) 1 64 (AA G sz)
theorem Ch.of {l : Launch} {G : GG} {y : MethodName} {ws ws' : List Cond} {d : Nat} {av : List Value} {M : MM} {Qf : Option Value → MM → Prop} {cc : ByteArray} {maxL : Nat} {ret : Option FieldType} {lv : List (Nat × Value)} (hy : plainName y.cls = true) (hw : ws = Cond.code y cc maxL ret :: ws') (hlv : lv_args 0 av = lv) (hlen : (lg_sl av).length ≤ maxL)
    (body : ∀ (p : Program) (e : Env) (s : State) (m : MethodId) (below : List Frame) (meth : Method) (c : Code) (A : Nat → Prop), Cx G p s m av.toArray meth c A cc maxL y.cls ws → meth.sig.returnType = ret → J G p l e (rmH d) s m av.toArray below meth c A maxL (MQ below (QQ G Qf A) av.toArray s 1 64 A) 0 0 0 lv [] M) : Ch l G y ws d av M Qf := by
  intro sz
  refine Met.ofW (cc := cc) (maxL := maxL) (ret := ret) hy hw ?_
  intro p e s m args below meth c s₁ B hml hv
  obtain ⟨rfl, hsz, hP, hK, hg⟩ := hv
  subst hsz
  have C : Cx G p s m av.toArray meth c (AA G s.heap.size) cc maxL y.cls ws := ⟨B.exec, B.bytes, hml, findClass_of_methodNamed B.named, atoms_spec (ws := ws) B.pre, B.notSynchronized, hK, hg, fun i hi => Or.inl ⟨i, hi, rfl⟩, fun q h => Or.inr h⟩
  have hl := lv_entry av hlen
  rw [hlv] at hl
  rw [lg_entry_eq]
  exact body p e s m below meth c _ C B.returns s.heap [] _ hP va_S.rf hl
section JHg
variable {G : GG} {p : Program} {l : Launch} {e : Env} {R : Room} {s : State} {m : MethodId} {args : Array Value} {below : List Frame} {meth : Method} {c : Code} {A : Nat → Prop} {nL : Nat} {Q : State → Prop} {k9 n9 pc : Nat} {lv : List (Nat × Value)} {st : List Value} {M : MM} {cc : ByteArray} {own : String} {Ts : List Cond} {Qf : Option Value → MM → Prop}
theorem j_callSg (C : Cx G p s m args meth c A cc nL own Ts) {index d maxL n : Nat} {As rest st0 : List Value} {y : MethodName} {ws' ws2 : List Cond} {bytes : ByteArray} {ret : Option FieldType}
    (hC : Ch l G y ws' d As M Qf) (hd : decode cc pc = .ok (.invokestatic index, 3)) (hG : GoodIn Ts (va_wsS own index y ws')) (hw : ws' = Cond.code y bytes maxL ret :: ws2)
    (hy : y.cls ≠ "java/lang/invoke/MethodHandle" ∧ y.cls ≠ "java/lang/invoke/VarHandle" ∧ (parseMethodDescriptor y.desc).map (fun d => d.parameters.length) = some n) (hn : As.length = n) (hst : st0 = As.reverse ++ rest) (hcat : (rest.map fun v => v.category).sum ≤ 8) (hR : (rmH d).frames + 1 ≤ R.frames ∧ 8 + (maxL + 11) + (rmH d).locals ≤ R.locals) (hkn : k9 + 1 ≤ R.cells ∧ n9 + 64 ≤ R.slots)
    (k : ∀ (v : Option Value) (M' : MM), Qf v M' → J G p l e R s m args below meth c A nL Q (k9 + 1) (n9 + 64) (pc + 3) lv (v.toList ++ rest) M') : J G p l e R s m args below meth c A nL Q k9 n9 pc lv st0 M := by
  refine j_runK C (rest := rest) (a9 := As.toArray) (fun H locs ls hP hS hv => ?_) k
  exact va_runS (As := As) (rest := rest) ⟨C.1, C.2.1, C.2.2.1, C.2.2.2.1, C.2.2.2.2.1⟩ (hC H.size) (va_cwS n C.2.2.2.2.1 hG hw rfl rfl hy hR) ⟨Wd.blind, fun U hU hW => ⟨rfl, by rw [hU], by rw [hU]; exact hP, C.2.2.2.2.2.2.1.warm hW, C.2.2.2.2.2.2.2.1⟩⟩ rfl hn hv.1 hst (lv_room hcat) hd hkn
theorem j_callSs (C : Cx G p s m args meth c A cc nL own Ts) {b L : Nat} {xs : Nat → Int32} (hX9 : va_X b L xs s s.heap) (hbl : b < s.heap.size) (hbA : ¬ A b) {index d maxL n : Nat} {As rest st0 : List Value} {y : MethodName} {ws' ws2 : List Cond} {bytes : ByteArray} {ret : Option FieldType}
    (hC : Cs l G y ws' d As M b L xs Qf) (hd : decode cc pc = .ok (.invokestatic index, 3)) (hG : GoodIn Ts (va_wsS own index y ws')) (hw : ws' = Cond.code y bytes maxL ret :: ws2)
    (hy : y.cls ≠ "java/lang/invoke/MethodHandle" ∧ y.cls ≠ "java/lang/invoke/VarHandle" ∧ (parseMethodDescriptor y.desc).map (fun d => d.parameters.length) = some n) (hn : As.length = n) (hst : st0 = As.reverse ++ rest) (hcat : (rest.map fun v => v.category).sum ≤ 8) (hR : (rmD d).frames + 1 ≤ R.frames ∧ 8 + (maxL + 11) + (rmD d).locals ≤ R.locals) (hkn : k9 ≤ R.cells ∧ n9 ≤ R.slots)
    (k : ∀ (v : Option Value) (M' : MM), Qf v M' → J G p l e R s m args below meth c A nL Q k9 n9 (pc + 3) lv (v.toList ++ rest) M') : J G p l e R s m args below meth c A nL Q k9 n9 pc lv st0 M := by
  refine j_run C (rest := rest) (a9 := As.toArray) (fun H locs ls hP hS hv => ?_) k
  exact va_runS (As := As) (rest := rest) ⟨C.1, C.2.1, C.2.2.1, C.2.2.2.1, C.2.2.2.2.1⟩ (hC H.size) (va_cwS n C.2.2.2.2.1 hG hw rfl rfl hy hR) ⟨Ws.blind, fun U hU hW => ⟨rfl, by rw [hU], ⟨by rw [hU]; exact hP, C.2.2.2.2.2.2.1.warm hW, C.2.2.2.2.2.2.2.1⟩, by rw [hU]; exact (hX9.kept (hS.2.1 b hbl hbA)).moved hW.alike, Nat.lt_of_lt_of_le hbl hS.1, fun i hi e => hbA (e ▸ C.2.2.2.2.2.2.2.2.1 i hi)⟩⟩ rfl hn hv.1 hst (lv_room hcat) hd hkn
theorem j_ldc (C : Cx G p s m args meth c A cc nL own Ts) {index : Nat} {v : Int32} (hd : decode cc pc = .ok (.ldc index, 2)) (hc : Cond.constant own index v ∈ Ts)
    (k : J G p l e R s m args below meth c A nL Q k9 n9 (pc + 2) lv (.int v :: st) M)
    : J G p l e R s m args below meth c A nL Q k9 n9 pc lv st M := by
  intro H locs ls hP hS hv
  exact lv_ldc C.1 C.2.1 C.2.2.2.1 (C.w hc) hd (k H locs ls hP hS hv)
theorem j_join (B : Bool) (K : J G p l e R s m args below meth c A nL Q k9 n9 pc lv (.int (bI B) :: st) M) {v : Int32} (h : v = bI B) : J G p l e R s m args below meth c A nL Q k9 n9 pc lv (.int v :: st) M := by
  subst h; exact K
theorem j_cut (pc2 : Nat) (B : Bool) (K : J G p l e R s m args below meth c A nL Q k9 n9 pc2 lv (.int (bI B) :: st) M) (k : J G p l e R s m args below meth c A nL Q k9 n9 pc2 lv (.int (bI B) :: st) M → J G p l e R s m args below meth c A nL Q k9 n9 pc lv st M) : J G p l e R s m args below meth c A nL Q k9 n9 pc lv st M := k K
theorem j_cutI (pc2 : Nat) (v : Int32) (K : J G p l e R s m args below meth c A nL Q k9 n9 pc2 lv (.int v :: st) M) (k : J G p l e R s m args below meth c A nL Q k9 n9 pc2 lv (.int v :: st) M → J G p l e R s m args below meth c A nL Q k9 n9 pc lv st M) : J G p l e R s m args below meth c A nL Q k9 n9 pc lv st M := k K
theorem j_if_ltO (C : Cx G p s m args meth c A cc nL own Ts) {a : Nat} {off : Int} {tgt : Nat} (hd : decode cc pc = .ok (.ifCond .lt off, 3)) (ht : (pc : Int) + off = (tgt : Int)) (ha : a < 2 ^ 31)
    (kt : a = 0 → J G p l e R s m args below meth c A nL Q k9 n9 tgt lv st M)
    (kf : ¬ a = 0 → J G p l e R s m args below meth c A nL Q k9 n9 (pc + 3) lv st M)
    : J G p l e R s m args below meth c A nL Q k9 n9 pc lv (.int (oI a) :: st) M := j_if_lt C hd ht (fun h => kt ((oI_neg ha).mp h)) (fun h => kf (fun q => h ((oI_neg ha).mpr q)))
theorem j_if_geO (C : Cx G p s m args meth c A cc nL own Ts) {a : Nat} {off : Int} {tgt : Nat} (hd : decode cc pc = .ok (.ifCond .ge off, 3)) (ht : (pc : Int) + off = (tgt : Int)) (ha : a < 2 ^ 31)
    (kt : ¬ a = 0 → J G p l e R s m args below meth c A nL Q k9 n9 tgt lv st M)
    (kf : a = 0 → J G p l e R s m args below meth c A nL Q k9 n9 (pc + 3) lv st M)
    : J G p l e R s m args below meth c A nL Q k9 n9 pc lv (.int (oI a) :: st) M := j_if_ge C hd ht (fun h => kt (fun q => Int32.not_lt.mpr h ((oI_neg ha).mpr q))) (fun h => kf ((oI_neg ha).mp (Int32.not_le.mp h)))
end JHg
/-! the memory with the row of 64 ints behind it -/
def cT (G : GG) (T : Nat → Int32) : va_E := .inl (G.2.1 0, 64, .inl T)
def WT (G : GG) (h0 : Nat) (M : MM) (T : Nat → Int32) : va_W := WS G M ++ [(h0, cT G T)]
def JT (G : GG) (h0 : Nat) (p : Program) (l : Launch) (e : Env) (R : Room) (s : State) (m : MethodId) (args : Array Value) (below : List Frame) (meth : Method) (c : Code) (A : Nat → Prop) (nL : Nat) (Q : State → Prop) (k9 n9 : Nat) (pc : Nat) (lv : List (Nat × Value)) (st : List Value) (M : MM) (T : Nat → Int32) : Prop :=
  ∀ (H : Heap) (locs : List Loc) (ls : Array Slot), va_P G.1 vwCl (WT G h0 M T) H → va_S A s.heap H locs → lv_has ls nL lv → W p l e R s m args below meth c H locs k9 n9 Q (F0 m pc ls st)
def HT (G : GG) (A : Nat → Prop) (h0 : Nat) : Prop := (∀ i, i < NN → G.2.2 i ≠ h0) ∧ A h0
theorem WS_len {G : GG} {M : MM} : (WS G M).length = NN := by simp [WS]
theorem WT_D {G : GG} {M : MM} {T : Nat → Int32} {A : Nat → Prop} {h0 : Nat} (hD : va_D A (WS G M)) (hh : HT G A h0) : va_D A (WT G h0 M T) := by
  refine ⟨fun i j p q hp hq h => ?_, fun k q h => ?_⟩
  · unfold WT at hp hq
    rcases Nat.lt_or_ge i NN with a | a
    · rw [List.getElem?_append_left (by rw [WS_len]; exact a)] at hp
      rcases Nat.lt_or_ge j NN with b | b
      · rw [List.getElem?_append_left (by rw [WS_len]; exact b)] at hq
        exact hD.1 i j p q hp hq h
      · exfalso
        rw [List.getElem?_append_right (by rw [WS_len]; exact b)] at hq
        obtain ⟨h1, rfl⟩ := WS_get_lt hp
        rcases Nat.eq_zero_or_pos (j - (WS G M).length) with z | z
        · rw [z] at hq; cases hq; exact hh.1 i h1 h
        · rw [List.getElem?_eq_none z] at hq; cases hq
    · rw [List.getElem?_append_right (by rw [WS_len]; exact a)] at hp
      rcases Nat.eq_zero_or_pos (i - (WS G M).length) with z | z
      · rw [z] at hp; cases hp
        rcases Nat.lt_or_ge j NN with b | b
        · exfalso
          rw [List.getElem?_append_left (by rw [WS_len]; exact b)] at hq
          obtain ⟨h1, rfl⟩ := WS_get_lt hq
          exact hh.1 j h1 h.symm
        · rw [List.getElem?_append_right (by rw [WS_len]; exact b)] at hq
          rcases Nat.eq_zero_or_pos (j - (WS G M).length) with y | y
          · rw [WS_len] at y z; omega
          · rw [List.getElem?_eq_none y] at hq; cases hq
      · rw [List.getElem?_eq_none z] at hp; cases hp
  · unfold WT at h
    rcases Nat.lt_or_ge k NN with a | a
    · rw [List.getElem?_append_left (by rw [WS_len]; exact a)] at h
      exact hD.2 k q h
    · rw [List.getElem?_append_right (by rw [WS_len]; exact a)] at h
      rcases Nat.eq_zero_or_pos (k - (WS G M).length) with z | z
      · rw [z] at h; cases h; exact hh.2
      · rw [List.getElem?_eq_none z] at h; cases h
theorem WT_at {G : GG} {M : MM} {T : Nat → Int32} {h0 : Nat} : (WT G h0 M T)[NN]? = some (h0, cT G T) := by
  unfold WT
  rw [List.getElem?_append_right (by rw [WS_len]; exact Nat.le_refl _), WS_len, Nat.sub_self]; rfl
theorem WT_set {G : GG} {M : MM} {T T2 : Nat → Int32} {h0 : Nat} : (WT G h0 M T).set NN (h0, cT G T2) = WT G h0 M T2 := by
  unfold WT
  rw [List.set_append_right _ _ (by rw [WS_len]; exact Nat.le_refl _), WS_len, Nat.sub_self]; rfl
theorem WT_pre {G : GG} {M : MM} {T : Nat → Int32} {h0 : Nat} {H : Heap} (h : va_P G.1 vwCl (WT G h0 M T) H) : va_P G.1 vwCl (WS G M) H := fun k q hk => h k q (by
  unfold WT
  rw [List.getElem?_append_left (List.getElem?_eq_some_iff.mp hk).1]; exact hk)
theorem WT_suf {G : GG} {M : MM} {T : Nat → Int32} {h0 : Nat} {H : Heap} (h : va_P G.1 vwCl (WT G h0 M T) H) : va_P G.1 vwCl [(h0, cT G T)] H := fun k q hk => h (NN + k) q (by
  unfold WT
  rw [List.getElem?_append_right (by rw [WS_len]; exact Nat.le_add_right _ _), WS_len, Nat.add_sub_cancel_left]; exact hk)
theorem va_RA_uniq2 {U : State} {x y : ClassId} {ty : FieldType} (h1 : va_RA U x ty) (h2 : va_RA U y ty) : x = y := by
  cases ty <;> first | exact Option.some.inj (Eq.trans (Eq.symm h1) h2) | (obtain ⟨_, _, _, _, _, a⟩ := h1; obtain ⟨_, _, _, _, _, b⟩ := h2; exact Option.some.inj (a.symm.trans b))
section JTr
variable {G : GG} {p : Program} {l : Launch} {e : Env} {R : Room} {s : State} {m : MethodId} {args : Array Value} {below : List Frame} {meth : Method} {c : Code} {A : Nat → Prop} {nL : Nat} {Q : State → Prop} {k9 n9 pc : Nat} {lv : List (Nat × Value)} {st : List Value} {M : MM} {cc : ByteArray} {own : String} {Ts : List Cond} {Qf : Option Value → MM → Prop} {T : Nat → Int32} {h0 : Nat}
theorem jt_iconst (C : Cx G p s m args meth c A cc nL own Ts) {n : Int} {v : Int32} (hd : decode cc pc = .ok (.iconst n, 1)) (hv9 : Int32.ofInt n = v)
    (k : JT G h0 p l e R s m args below meth c A nL Q k9 n9 (pc + 1) lv (.int v :: st) M T)
    : JT G h0 p l e R s m args below meth c A nL Q k9 n9 pc lv st M T := by
  intro H locs ls hP hS hv
  exact lv_iconst C.1 C.2.1 hd hv9 (k H locs ls hP hS hv)
theorem jt_bipush (C : Cx G p s m args meth c A cc nL own Ts) {n : Int} {v : Int32} (hd : decode cc pc = .ok (.bipush n, 2)) (hv9 : (Int8.ofInt n).toInt32 = v)
    (k : JT G h0 p l e R s m args below meth c A nL Q k9 n9 (pc + 2) lv (.int v :: st) M T)
    : JT G h0 p l e R s m args below meth c A nL Q k9 n9 pc lv st M T := by
  intro H locs ls hP hS hv
  exact lv_bipush C.1 C.2.1 hd hv9 (k H locs ls hP hS hv)
theorem jt_iload (C : Cx G p s m args meth c A cc nL own Ts) {i : Nat} {x : Int32} (hd : decode cc pc = .ok (.iload i, 2)) (hl : lvg lv i = some (.int x))
    (k : JT G h0 p l e R s m args below meth c A nL Q k9 n9 (pc + 2) lv (.int x :: st) M T)
    : JT G h0 p l e R s m args below meth c A nL Q k9 n9 pc lv st M T := by
  intro H locs ls hP hS hv
  exact lv_iload C.1 C.2.1 hd (lvg_at hv hl) (k H locs ls hP hS hv)
theorem jt_iload_n (C : Cx G p s m args meth c A cc nL own Ts) {i : Fin 4} {x : Int32} (hd : decode cc pc = .ok (.iload_n i, 1)) (hl : lvg lv i = some (.int x))
    (k : JT G h0 p l e R s m args below meth c A nL Q k9 n9 (pc + 1) lv (.int x :: st) M T)
    : JT G h0 p l e R s m args below meth c A nL Q k9 n9 pc lv st M T := by
  intro H locs ls hP hS hv
  exact lv_iload_n C.1 C.2.1 hd rfl (lvg_at hv hl) (k H locs ls hP hS hv)
theorem jt_aload (C : Cx G p s m args meth c A cc nL own Ts) {i : Nat} {x : Nat} (hd : decode cc pc = .ok (.aload i, 2)) (hl : lvg lv i = some (.ref x))
    (k : JT G h0 p l e R s m args below meth c A nL Q k9 n9 (pc + 2) lv (.ref x :: st) M T)
    : JT G h0 p l e R s m args below meth c A nL Q k9 n9 pc lv st M T := by
  intro H locs ls hP hS hv
  exact lv_aload C.1 C.2.1 hd (lvg_at hv hl) (k H locs ls hP hS hv)
theorem jt_aload_n (C : Cx G p s m args meth c A cc nL own Ts) {i : Fin 4} {x : Nat} (hd : decode cc pc = .ok (.aload_n i, 1)) (hl : lvg lv i = some (.ref x))
    (k : JT G h0 p l e R s m args below meth c A nL Q k9 n9 (pc + 1) lv (.ref x :: st) M T)
    : JT G h0 p l e R s m args below meth c A nL Q k9 n9 pc lv st M T := by
  intro H locs ls hP hS hv
  exact lv_aload_n C.1 C.2.1 hd rfl (lvg_at hv hl) (k H locs ls hP hS hv)
theorem jt_istore (C : Cx G p s m args meth c A cc nL own Ts) {i : Nat} {x : Int32} (hd : decode cc pc = .ok (.istore i, 2)) (hn : i < nL)
    (k : JT G h0 p l e R s m args below meth c A nL Q k9 n9 (pc + 2) (lvi i (.int x) (lvr i lv)) st M T)
    : JT G h0 p l e R s m args below meth c A nL Q k9 n9 pc lv (.int x :: st) M T := by
  intro H locs ls hP hS hv
  exact lv_istore C.1 C.2.1 hd hv hn rfl (fun ls9 h9 => k H locs ls9 hP hS (lvs_has h9))
theorem jt_istore_n (C : Cx G p s m args meth c A cc nL own Ts) {i : Fin 4} {x : Int32} (hd : decode cc pc = .ok (.istore_n i, 1)) (hn : (i : Nat) < nL)
    (k : JT G h0 p l e R s m args below meth c A nL Q k9 n9 (pc + 1) (lvi (i : Nat) (.int x) (lvr (i : Nat) lv)) st M T)
    : JT G h0 p l e R s m args below meth c A nL Q k9 n9 pc lv (.int x :: st) M T := by
  intro H locs ls hP hS hv
  exact lv_istore_n C.1 C.2.1 hd rfl hv hn rfl (fun ls9 h9 => k H locs ls9 hP hS (lvs_has h9))
theorem jt_astore (C : Cx G p s m args meth c A cc nL own Ts) {i : Nat} {x : Nat} (hd : decode cc pc = .ok (.astore i, 2)) (hn : i < nL)
    (k : JT G h0 p l e R s m args below meth c A nL Q k9 n9 (pc + 2) (lvi i (.ref x) (lvr i lv)) st M T)
    : JT G h0 p l e R s m args below meth c A nL Q k9 n9 pc lv (.ref x :: st) M T := by
  intro H locs ls hP hS hv
  exact lv_astore C.1 C.2.1 hd hv hn rfl (fun ls9 h9 => k H locs ls9 hP hS (lvs_has h9))
theorem jt_iinc (C : Cx G p s m args meth c A cc nL own Ts) {i : Nat} {n : Int} {x v : Int32} (hd : decode cc pc = .ok (.iinc i n, 3)) (hl : lvg lv i = some (.int x)) (hv9 : x + Int32.ofInt n = v) (hn : i < nL)
    (k : JT G h0 p l e R s m args below meth c A nL Q k9 n9 (pc + 3) (lvi i (.int v) (lvr i lv)) st M T)
    : JT G h0 p l e R s m args below meth c A nL Q k9 n9 pc lv st M T := by
  intro H locs ls hP hS hv
  obtain ⟨k1, hk1⟩ := List.getElem?_of_mem (lvg_mem hl)
  exact lv_iinc C.1 C.2.1 hd hv hk1 hv9 hn rfl (fun ls9 h9 => k H locs ls9 hP hS (lvs_has h9))
theorem jt_iincN (C : Cx G p s m args meth c A cc nL own Ts) {i : Nat} {n : Nat} {x : Nat} (hd : decode cc pc = .ok (.iinc i n, 3)) (hl : lvg lv i = some (.int (nI x))) (hn : i < nL)
    (k : JT G h0 p l e R s m args below meth c A nL Q k9 n9 (pc + 3) (lvi i (.int (nI (x + n))) (lvr i lv)) st M T)
    : JT G h0 p l e R s m args below meth c A nL Q k9 n9 pc lv st M T := by
  exact jt_iinc C hd hl (by rw [← nI_add]; rfl) hn k
theorem jt_iadd (C : Cx G p s m args meth c A cc nL own Ts) {x y : Int32} (hd : decode cc pc = .ok (.iadd, 1))
    (k : JT G h0 p l e R s m args below meth c A nL Q k9 n9 (pc + 1) lv (.int (x + y) :: st) M T)
    : JT G h0 p l e R s m args below meth c A nL Q k9 n9 pc lv (.int y :: .int x :: st) M T := by
  intro H locs ls hP hS hv
  exact lv_iadd C.1 C.2.1 hd (k H locs ls hP hS hv)
theorem jt_iaddN (C : Cx G p s m args meth c A cc nL own Ts) {a b : Nat} (hd : decode cc pc = .ok (.iadd, 1))
    (k : JT G h0 p l e R s m args below meth c A nL Q k9 n9 (pc + 1) lv (.int (nI (a + b)) :: st) M T)
    : JT G h0 p l e R s m args below meth c A nL Q k9 n9 pc lv (.int (nI b) :: .int (nI a) :: st) M T := by
  refine jt_iadd C hd ?_
  rw [nI_add]
  exact k
theorem jt_isub (C : Cx G p s m args meth c A cc nL own Ts) {x y : Int32} (hd : decode cc pc = .ok (.isub, 1))
    (k : JT G h0 p l e R s m args below meth c A nL Q k9 n9 (pc + 1) lv (.int (x - y) :: st) M T)
    : JT G h0 p l e R s m args below meth c A nL Q k9 n9 pc lv (.int y :: .int x :: st) M T := by
  intro H locs ls hP hS hv
  exact lv_isub C.1 C.2.1 hd (k H locs ls hP hS hv)
theorem jt_imul (C : Cx G p s m args meth c A cc nL own Ts) {x y : Int32} (hd : decode cc pc = .ok (.imul, 1))
    (k : JT G h0 p l e R s m args below meth c A nL Q k9 n9 (pc + 1) lv (.int (x * y) :: st) M T)
    : JT G h0 p l e R s m args below meth c A nL Q k9 n9 pc lv (.int y :: .int x :: st) M T := by
  intro H locs ls hP hS hv
  exact lv_imul C.1 C.2.1 hd (k H locs ls hP hS hv)
theorem jt_imulN (C : Cx G p s m args meth c A cc nL own Ts) {a b : Nat} (hd : decode cc pc = .ok (.imul, 1))
    (k : JT G h0 p l e R s m args below meth c A nL Q k9 n9 (pc + 1) lv (.int (nI (a * b)) :: st) M T)
    : JT G h0 p l e R s m args below meth c A nL Q k9 n9 pc lv (.int (nI b) :: .int (nI a) :: st) M T := by
  refine jt_imul C hd ?_
  rw [pk_mul]
  exact k
theorem jt_iand (C : Cx G p s m args meth c A cc nL own Ts) {x y : Int32} (hd : decode cc pc = .ok (.iand, 1))
    (k : JT G h0 p l e R s m args below meth c A nL Q k9 n9 (pc + 1) lv (.int (x &&& y) :: st) M T)
    : JT G h0 p l e R s m args below meth c A nL Q k9 n9 pc lv (.int y :: .int x :: st) M T := by
  intro H locs ls hP hS hv
  exact lv_iand C.1 C.2.1 hd (k H locs ls hP hS hv)
theorem jt_ishr (C : Cx G p s m args meth c A cc nL own Ts) {x y : Int32} (hd : decode cc pc = .ok (.ishr, 1))
    (k : JT G h0 p l e R s m args below meth c A nL Q k9 n9 (pc + 1) lv (.int (x >>> (y &&& 31)) :: st) M T)
    : JT G h0 p l e R s m args below meth c A nL Q k9 n9 pc lv (.int y :: .int x :: st) M T := by
  intro H locs ls hP hS hv
  exact lv_ishr C.1 C.2.1 hd (k H locs ls hP hS hv)
theorem jt_idiv (C : Cx G p s m args meth c A cc nL own Ts) {x y : Int32} (hd : decode cc pc = .ok (.idiv, 1)) (hne : ¬ y = 0)
    (k : JT G h0 p l e R s m args below meth c A nL Q k9 n9 (pc + 1) lv (.int (x / y) :: st) M T)
    : JT G h0 p l e R s m args below meth c A nL Q k9 n9 pc lv (.int y :: .int x :: st) M T := by
  intro H locs ls hP hS hv
  exact lv_idiv C.1 C.2.1 hd hne (k H locs ls hP hS hv)
theorem jt_idivN (C : Cx G p s m args meth c A cc nL own Ts) {a b : Nat} (hd : decode cc pc = .ok (.idiv, 1)) (ha : a < 2 ^ 31) (hz0 : 0 < b) (hb : b < 2 ^ 31)
    (k : JT G h0 p l e R s m args below meth c A nL Q k9 n9 (pc + 1) lv (.int (nI (a / b)) :: st) M T)
    : JT G h0 p l e R s m args below meth c A nL Q k9 n9 pc lv (.int (nI b) :: .int (nI a) :: st) M T := by
  refine jt_idiv C hd (nI_ne0 hz0 hb) ?_
  rw [pk_div ha hz0 hb]
  exact k
theorem jt_i2d (C : Cx G p s m args meth c A cc nL own Ts) {x : Int32} (hd : decode cc pc = .ok (.i2d, 1))
    (k : JT G h0 p l e R s m args below meth c A nL Q k9 n9 (pc + 1) lv (.double (FP.i2d x) :: st) M T)
    : JT G h0 p l e R s m args below meth c A nL Q k9 n9 pc lv (.int x :: st) M T := by
  intro H locs ls hP hS hv
  exact lv_i2d C.1 C.2.1 hd (k H locs ls hP hS hv)
theorem jt_ddiv (C : Cx G p s m args meth c A cc nL own Ts) {x y : UInt64} (hd : decode cc pc = .ok (.ddiv, 1)) (hne : vf_n64 (FP.ddiv x y))
    (k : JT G h0 p l e R s m args below meth c A nL Q k9 n9 (pc + 1) lv (.double (FP.ddiv x y) :: st) M T)
    : JT G h0 p l e R s m args below meth c A nL Q k9 n9 pc lv (.double y :: .double x :: st) M T := by
  intro H locs ls hP hS hv
  exact lv_ddiv C.1 C.2.1 hd hne (k H locs ls hP hS hv)
theorem jt_dcmp (C : Cx G p s m args meth c A cc nL own Ts) {x y : UInt64} {op : CmpOp} (hd : decode cc pc = .ok (.dcmp op, 1))
    (k : JT G h0 p l e R s m args below meth c A nL Q k9 n9 (pc + 1) lv (.int (Op.cmpValue (FP.dcmp x y) op) :: st) M T)
    : JT G h0 p l e R s m args below meth c A nL Q k9 n9 pc lv (.double y :: .double x :: st) M T := by
  intro H locs ls hP hS hv
  exact lv_dcmp C.1 C.2.1 hd (k H locs ls hP hS hv)
theorem jt_ldc2d (C : Cx G p s m args meth c A cc nL own Ts) {index : Nat} {v : UInt64} (hd : decode cc pc = .ok (.ldc2_w index, 3)) (hc : Cond.constantDouble own index v ∈ Ts)
    (k : JT G h0 p l e R s m args below meth c A nL Q k9 n9 (pc + 3) lv (.double v :: st) M T)
    : JT G h0 p l e R s m args below meth c A nL Q k9 n9 pc lv st M T := by
  intro H locs ls hP hS hv
  exact lv_ldc2d C.1 C.2.1 C.2.2.2.1 (C.w hc) hd (k H locs ls hP hS hv)
theorem jt_goto (C : Cx G p s m args meth c A cc nL own Ts) {off : Int} {tgt : Nat} (hd : decode cc pc = .ok (.goto off, 3)) (ht : (pc : Int) + off = (tgt : Int))
    (k : JT G h0 p l e R s m args below meth c A nL Q k9 n9 tgt lv st M T)
    : JT G h0 p l e R s m args below meth c A nL Q k9 n9 pc lv st M T := by
  intro H locs ls hP hS hv
  exact lv_goto C.1 C.2.1 hd ht (k H locs ls hP hS hv)
theorem jt_dup2 (C : Cx G p s m args meth c A cc nL own Ts) {va vb : Value} (hd : decode cc pc = .ok (.dup2, 1)) (hva : va.category = 1) (hvb : vb.category = 1)
    (k : JT G h0 p l e R s m args below meth c A nL Q k9 n9 (pc + 1) lv (va :: vb :: va :: vb :: st) M T)
    : JT G h0 p l e R s m args below meth c A nL Q k9 n9 pc lv (va :: vb :: st) M T := by
  intro H locs ls hP hS hv
  exact lv_dup2_11 C.1 C.2.1 hd hva hvb (k H locs ls hP hS hv)
theorem jt_top (C : Cx G p s m args meth c A cc nL own Ts) {x : Int32} (y : Int32) (h : x = y)
    (k : JT G h0 p l e R s m args below meth c A nL Q k9 n9 pc lv (.int y :: st) M T)
    : JT G h0 p l e R s m args below meth c A nL Q k9 n9 pc lv (.int x :: st) M T := by
  subst h
  exact k
theorem jt_topd (C : Cx G p s m args meth c A cc nL own Ts) {x : UInt64} (y : UInt64) (h : x = y)
    (k : JT G h0 p l e R s m args below meth c A nL Q k9 n9 pc lv (.double y :: st) M T)
    : JT G h0 p l e R s m args below meth c A nL Q k9 n9 pc lv (.double x :: st) M T := by
  subst h
  exact k
theorem jt_pick (ks : List Nat) (k : JT G h0 p l e R s m args below meth c A nL Q k9 n9 pc (lv_pick lv ks) st M T) : JT G h0 p l e R s m args below meth c A nL Q k9 n9 pc lv st M T := fun H locs ls hP hS hv => k H locs ls hP hS (lv_sub hv ks rfl)
theorem jt_if_eq (C : Cx G p s m args meth c A cc nL own Ts) {x : Int32} {off : Int} {tgt : Nat} (hd : decode cc pc = .ok (.ifCond .eq off, 3)) (ht : (pc : Int) + off = (tgt : Int))
    (kt : x = 0 → JT G h0 p l e R s m args below meth c A nL Q k9 n9 tgt lv st M T)
    (kf : ¬ x = 0 → JT G h0 p l e R s m args below meth c A nL Q k9 n9 (pc + 3) lv st M T)
    : JT G h0 p l e R s m args below meth c A nL Q k9 n9 pc lv (.int x :: st) M T := by
  intro H locs ls hP hS hv
  exact lv_if_eq C.1 C.2.1 hd ht (fun h => kt h H locs ls hP hS hv) (fun h => kf h H locs ls hP hS hv)
theorem jt_if_ne (C : Cx G p s m args meth c A cc nL own Ts) {x : Int32} {off : Int} {tgt : Nat} (hd : decode cc pc = .ok (.ifCond .ne off, 3)) (ht : (pc : Int) + off = (tgt : Int))
    (kt : ¬ x = 0 → JT G h0 p l e R s m args below meth c A nL Q k9 n9 tgt lv st M T)
    (kf : x = 0 → JT G h0 p l e R s m args below meth c A nL Q k9 n9 (pc + 3) lv st M T)
    : JT G h0 p l e R s m args below meth c A nL Q k9 n9 pc lv (.int x :: st) M T := by
  intro H locs ls hP hS hv
  exact lv_if_ne C.1 C.2.1 hd ht (fun h => kt h H locs ls hP hS hv) (fun h => kf h H locs ls hP hS hv)
theorem jt_if_lt (C : Cx G p s m args meth c A cc nL own Ts) {x : Int32} {off : Int} {tgt : Nat} (hd : decode cc pc = .ok (.ifCond .lt off, 3)) (ht : (pc : Int) + off = (tgt : Int))
    (kt : x < 0 → JT G h0 p l e R s m args below meth c A nL Q k9 n9 tgt lv st M T)
    (kf : ¬ x < 0 → JT G h0 p l e R s m args below meth c A nL Q k9 n9 (pc + 3) lv st M T)
    : JT G h0 p l e R s m args below meth c A nL Q k9 n9 pc lv (.int x :: st) M T := by
  intro H locs ls hP hS hv
  exact lv_if_lt C.1 C.2.1 hd ht (fun h => kt h H locs ls hP hS hv) (fun h => kf h H locs ls hP hS hv)
theorem jt_if_ge (C : Cx G p s m args meth c A cc nL own Ts) {x : Int32} {off : Int} {tgt : Nat} (hd : decode cc pc = .ok (.ifCond .ge off, 3)) (ht : (pc : Int) + off = (tgt : Int))
    (kt : 0 ≤ x → JT G h0 p l e R s m args below meth c A nL Q k9 n9 tgt lv st M T)
    (kf : ¬ 0 ≤ x → JT G h0 p l e R s m args below meth c A nL Q k9 n9 (pc + 3) lv st M T)
    : JT G h0 p l e R s m args below meth c A nL Q k9 n9 pc lv (.int x :: st) M T := by
  intro H locs ls hP hS hv
  exact lv_if_ge C.1 C.2.1 hd ht (fun h => kt h H locs ls hP hS hv) (fun h => kf h H locs ls hP hS hv)
theorem jt_if_gt (C : Cx G p s m args meth c A cc nL own Ts) {x : Int32} {off : Int} {tgt : Nat} (hd : decode cc pc = .ok (.ifCond .gt off, 3)) (ht : (pc : Int) + off = (tgt : Int))
    (kt : 0 < x → JT G h0 p l e R s m args below meth c A nL Q k9 n9 tgt lv st M T)
    (kf : ¬ 0 < x → JT G h0 p l e R s m args below meth c A nL Q k9 n9 (pc + 3) lv st M T)
    : JT G h0 p l e R s m args below meth c A nL Q k9 n9 pc lv (.int x :: st) M T := by
  intro H locs ls hP hS hv
  exact lv_if_gt C.1 C.2.1 hd ht (fun h => kt h H locs ls hP hS hv) (fun h => kf h H locs ls hP hS hv)
theorem jt_if_le (C : Cx G p s m args meth c A cc nL own Ts) {x : Int32} {off : Int} {tgt : Nat} (hd : decode cc pc = .ok (.ifCond .le off, 3)) (ht : (pc : Int) + off = (tgt : Int))
    (kt : x ≤ 0 → JT G h0 p l e R s m args below meth c A nL Q k9 n9 tgt lv st M T)
    (kf : ¬ x ≤ 0 → JT G h0 p l e R s m args below meth c A nL Q k9 n9 (pc + 3) lv st M T)
    : JT G h0 p l e R s m args below meth c A nL Q k9 n9 pc lv (.int x :: st) M T := by
  intro H locs ls hP hS hv
  exact lv_if_le C.1 C.2.1 hd ht (fun h => kt h H locs ls hP hS hv) (fun h => kf h H locs ls hP hS hv)
theorem jt_icmp_eq (C : Cx G p s m args meth c A cc nL own Ts) {x y : Int32} {off : Int} {tgt : Nat} (hd : decode cc pc = .ok (.if_icmp .eq off, 3)) (ht : (pc : Int) + off = (tgt : Int))
    (kt : x = y → JT G h0 p l e R s m args below meth c A nL Q k9 n9 tgt lv st M T)
    (kf : ¬ x = y → JT G h0 p l e R s m args below meth c A nL Q k9 n9 (pc + 3) lv st M T)
    : JT G h0 p l e R s m args below meth c A nL Q k9 n9 pc lv (.int y :: .int x :: st) M T := by
  intro H locs ls hP hS hv
  exact lv_icmp_eq C.1 C.2.1 hd ht (fun h => kt h H locs ls hP hS hv) (fun h => kf h H locs ls hP hS hv)
theorem jt_icmp_ne (C : Cx G p s m args meth c A cc nL own Ts) {x y : Int32} {off : Int} {tgt : Nat} (hd : decode cc pc = .ok (.if_icmp .ne off, 3)) (ht : (pc : Int) + off = (tgt : Int))
    (kt : ¬ x = y → JT G h0 p l e R s m args below meth c A nL Q k9 n9 tgt lv st M T)
    (kf : x = y → JT G h0 p l e R s m args below meth c A nL Q k9 n9 (pc + 3) lv st M T)
    : JT G h0 p l e R s m args below meth c A nL Q k9 n9 pc lv (.int y :: .int x :: st) M T := by
  intro H locs ls hP hS hv
  exact lv_icmp_ne C.1 C.2.1 hd ht (fun h => kt h H locs ls hP hS hv) (fun h => kf h H locs ls hP hS hv)
theorem jt_icmp_lt (C : Cx G p s m args meth c A cc nL own Ts) {x y : Int32} {off : Int} {tgt : Nat} (hd : decode cc pc = .ok (.if_icmp .lt off, 3)) (ht : (pc : Int) + off = (tgt : Int))
    (kt : x < y → JT G h0 p l e R s m args below meth c A nL Q k9 n9 tgt lv st M T)
    (kf : ¬ x < y → JT G h0 p l e R s m args below meth c A nL Q k9 n9 (pc + 3) lv st M T)
    : JT G h0 p l e R s m args below meth c A nL Q k9 n9 pc lv (.int y :: .int x :: st) M T := by
  intro H locs ls hP hS hv
  exact lv_icmp_lt C.1 C.2.1 hd ht (fun h => kt h H locs ls hP hS hv) (fun h => kf h H locs ls hP hS hv)
theorem jt_icmp_ge (C : Cx G p s m args meth c A cc nL own Ts) {x y : Int32} {off : Int} {tgt : Nat} (hd : decode cc pc = .ok (.if_icmp .ge off, 3)) (ht : (pc : Int) + off = (tgt : Int))
    (kt : y ≤ x → JT G h0 p l e R s m args below meth c A nL Q k9 n9 tgt lv st M T)
    (kf : ¬ y ≤ x → JT G h0 p l e R s m args below meth c A nL Q k9 n9 (pc + 3) lv st M T)
    : JT G h0 p l e R s m args below meth c A nL Q k9 n9 pc lv (.int y :: .int x :: st) M T := by
  intro H locs ls hP hS hv
  exact lv_icmp_ge C.1 C.2.1 hd ht (fun h => kt h H locs ls hP hS hv) (fun h => kf h H locs ls hP hS hv)
theorem jt_icmp_gt (C : Cx G p s m args meth c A cc nL own Ts) {x y : Int32} {off : Int} {tgt : Nat} (hd : decode cc pc = .ok (.if_icmp .gt off, 3)) (ht : (pc : Int) + off = (tgt : Int))
    (kt : y < x → JT G h0 p l e R s m args below meth c A nL Q k9 n9 tgt lv st M T)
    (kf : ¬ y < x → JT G h0 p l e R s m args below meth c A nL Q k9 n9 (pc + 3) lv st M T)
    : JT G h0 p l e R s m args below meth c A nL Q k9 n9 pc lv (.int y :: .int x :: st) M T := by
  intro H locs ls hP hS hv
  exact lv_icmp_gt C.1 C.2.1 hd ht (fun h => kt h H locs ls hP hS hv) (fun h => kf h H locs ls hP hS hv)
theorem jt_icmp_le (C : Cx G p s m args meth c A cc nL own Ts) {x y : Int32} {off : Int} {tgt : Nat} (hd : decode cc pc = .ok (.if_icmp .le off, 3)) (ht : (pc : Int) + off = (tgt : Int))
    (kt : x ≤ y → JT G h0 p l e R s m args below meth c A nL Q k9 n9 tgt lv st M T)
    (kf : ¬ x ≤ y → JT G h0 p l e R s m args below meth c A nL Q k9 n9 (pc + 3) lv st M T)
    : JT G h0 p l e R s m args below meth c A nL Q k9 n9 pc lv (.int y :: .int x :: st) M T := by
  intro H locs ls hP hS hv
  exact lv_icmp_le C.1 C.2.1 hd ht (fun h => kt h H locs ls hP hS hv) (fun h => kf h H locs ls hP hS hv)
theorem jt_if_eqN (C : Cx G p s m args meth c A cc nL own Ts) {a : Nat} {off : Int} {tgt : Nat} (hd : decode cc pc = .ok (.ifCond .eq off, 3)) (ht : (pc : Int) + off = (tgt : Int)) (ha : a < 2 ^ 31)
    (kt : a = 0 → JT G h0 p l e R s m args below meth c A nL Q k9 n9 tgt lv st M T)
    (kf : ¬ a = 0 → JT G h0 p l e R s m args below meth c A nL Q k9 n9 (pc + 3) lv st M T)
    : JT G h0 p l e R s m args below meth c A nL Q k9 n9 pc lv (.int (nI a) :: st) M T := by
  have hb : 0 < 2 ^ 31 := by decide
  exact jt_if_eq C hd ht (fun h => kt ((nI_eq ha hb).mp h)) (fun h => kf (fun q => h ((nI_eq ha hb).mpr q)))
theorem jt_if_neN (C : Cx G p s m args meth c A cc nL own Ts) {a : Nat} {off : Int} {tgt : Nat} (hd : decode cc pc = .ok (.ifCond .ne off, 3)) (ht : (pc : Int) + off = (tgt : Int)) (ha : a < 2 ^ 31)
    (kt : ¬ a = 0 → JT G h0 p l e R s m args below meth c A nL Q k9 n9 tgt lv st M T)
    (kf : a = 0 → JT G h0 p l e R s m args below meth c A nL Q k9 n9 (pc + 3) lv st M T)
    : JT G h0 p l e R s m args below meth c A nL Q k9 n9 pc lv (.int (nI a) :: st) M T := by
  have hb : 0 < 2 ^ 31 := by decide
  exact jt_if_ne C hd ht (fun h => kt (fun q => h ((nI_eq ha hb).mpr q))) (fun h => kf ((nI_eq ha hb).mp h))
theorem jt_if_ltN (C : Cx G p s m args meth c A cc nL own Ts) {a : Nat} {off : Int} {tgt : Nat} (hd : decode cc pc = .ok (.ifCond .lt off, 3)) (ht : (pc : Int) + off = (tgt : Int)) (ha : a < 2 ^ 31)
    (kt : a < 0 → JT G h0 p l e R s m args below meth c A nL Q k9 n9 tgt lv st M T)
    (kf : 0 ≤ a → JT G h0 p l e R s m args below meth c A nL Q k9 n9 (pc + 3) lv st M T)
    : JT G h0 p l e R s m args below meth c A nL Q k9 n9 pc lv (.int (nI a) :: st) M T := by
  have hb : 0 < 2 ^ 31 := by decide
  exact jt_if_lt C hd ht (fun h => kt ((nI_ltI ha hb).mp h)) (fun h => kf (Nat.not_lt.mp fun q => h ((nI_ltI ha hb).mpr q)))
theorem jt_if_geN (C : Cx G p s m args meth c A cc nL own Ts) {a : Nat} {off : Int} {tgt : Nat} (hd : decode cc pc = .ok (.ifCond .ge off, 3)) (ht : (pc : Int) + off = (tgt : Int)) (ha : a < 2 ^ 31)
    (kt : 0 ≤ a → JT G h0 p l e R s m args below meth c A nL Q k9 n9 tgt lv st M T)
    (kf : a < 0 → JT G h0 p l e R s m args below meth c A nL Q k9 n9 (pc + 3) lv st M T)
    : JT G h0 p l e R s m args below meth c A nL Q k9 n9 pc lv (.int (nI a) :: st) M T := by
  have hb : 0 < 2 ^ 31 := by decide
  exact jt_if_ge C hd ht (fun h => kt ((nI_leI hb ha).mp h)) (fun h => kf (Nat.not_le.mp fun q => h ((nI_leI hb ha).mpr q)))
theorem jt_if_gtN (C : Cx G p s m args meth c A cc nL own Ts) {a : Nat} {off : Int} {tgt : Nat} (hd : decode cc pc = .ok (.ifCond .gt off, 3)) (ht : (pc : Int) + off = (tgt : Int)) (ha : a < 2 ^ 31)
    (kt : 0 < a → JT G h0 p l e R s m args below meth c A nL Q k9 n9 tgt lv st M T)
    (kf : a ≤ 0 → JT G h0 p l e R s m args below meth c A nL Q k9 n9 (pc + 3) lv st M T)
    : JT G h0 p l e R s m args below meth c A nL Q k9 n9 pc lv (.int (nI a) :: st) M T := by
  have hb : 0 < 2 ^ 31 := by decide
  exact jt_if_gt C hd ht (fun h => kt ((nI_ltI hb ha).mp h)) (fun h => kf (Nat.not_lt.mp fun q => h ((nI_ltI hb ha).mpr q)))
theorem jt_if_leN (C : Cx G p s m args meth c A cc nL own Ts) {a : Nat} {off : Int} {tgt : Nat} (hd : decode cc pc = .ok (.ifCond .le off, 3)) (ht : (pc : Int) + off = (tgt : Int)) (ha : a < 2 ^ 31)
    (kt : a ≤ 0 → JT G h0 p l e R s m args below meth c A nL Q k9 n9 tgt lv st M T)
    (kf : 0 < a → JT G h0 p l e R s m args below meth c A nL Q k9 n9 (pc + 3) lv st M T)
    : JT G h0 p l e R s m args below meth c A nL Q k9 n9 pc lv (.int (nI a) :: st) M T := by
  have hb : 0 < 2 ^ 31 := by decide
  exact jt_if_le C hd ht (fun h => kt ((nI_leI ha hb).mp h)) (fun h => kf (Nat.not_le.mp fun q => h ((nI_leI ha hb).mpr q)))
theorem jt_icmp_eqN (C : Cx G p s m args meth c A cc nL own Ts) {a b : Nat} {off : Int} {tgt : Nat} (hd : decode cc pc = .ok (.if_icmp .eq off, 3)) (ht : (pc : Int) + off = (tgt : Int)) (ha : a < 2 ^ 31) (hb : b < 2 ^ 31)
    (kt : a = b → JT G h0 p l e R s m args below meth c A nL Q k9 n9 tgt lv st M T)
    (kf : ¬ a = b → JT G h0 p l e R s m args below meth c A nL Q k9 n9 (pc + 3) lv st M T)
    : JT G h0 p l e R s m args below meth c A nL Q k9 n9 pc lv (.int (nI b) :: .int (nI a) :: st) M T := by
  exact jt_icmp_eq C hd ht (fun h => kt ((nI_eq ha hb).mp h)) (fun h => kf (fun q => h ((nI_eq ha hb).mpr q)))
theorem jt_icmp_neN (C : Cx G p s m args meth c A cc nL own Ts) {a b : Nat} {off : Int} {tgt : Nat} (hd : decode cc pc = .ok (.if_icmp .ne off, 3)) (ht : (pc : Int) + off = (tgt : Int)) (ha : a < 2 ^ 31) (hb : b < 2 ^ 31)
    (kt : ¬ a = b → JT G h0 p l e R s m args below meth c A nL Q k9 n9 tgt lv st M T)
    (kf : a = b → JT G h0 p l e R s m args below meth c A nL Q k9 n9 (pc + 3) lv st M T)
    : JT G h0 p l e R s m args below meth c A nL Q k9 n9 pc lv (.int (nI b) :: .int (nI a) :: st) M T := by
  exact jt_icmp_ne C hd ht (fun h => kt (fun q => h ((nI_eq ha hb).mpr q))) (fun h => kf ((nI_eq ha hb).mp h))
theorem jt_icmp_ltN (C : Cx G p s m args meth c A cc nL own Ts) {a b : Nat} {off : Int} {tgt : Nat} (hd : decode cc pc = .ok (.if_icmp .lt off, 3)) (ht : (pc : Int) + off = (tgt : Int)) (ha : a < 2 ^ 31) (hb : b < 2 ^ 31)
    (kt : a < b → JT G h0 p l e R s m args below meth c A nL Q k9 n9 tgt lv st M T)
    (kf : b ≤ a → JT G h0 p l e R s m args below meth c A nL Q k9 n9 (pc + 3) lv st M T)
    : JT G h0 p l e R s m args below meth c A nL Q k9 n9 pc lv (.int (nI b) :: .int (nI a) :: st) M T := by
  exact jt_icmp_lt C hd ht (fun h => kt ((nI_ltI ha hb).mp h)) (fun h => kf (Nat.not_lt.mp fun q => h ((nI_ltI ha hb).mpr q)))
theorem jt_icmp_geN (C : Cx G p s m args meth c A cc nL own Ts) {a b : Nat} {off : Int} {tgt : Nat} (hd : decode cc pc = .ok (.if_icmp .ge off, 3)) (ht : (pc : Int) + off = (tgt : Int)) (ha : a < 2 ^ 31) (hb : b < 2 ^ 31)
    (kt : b ≤ a → JT G h0 p l e R s m args below meth c A nL Q k9 n9 tgt lv st M T)
    (kf : a < b → JT G h0 p l e R s m args below meth c A nL Q k9 n9 (pc + 3) lv st M T)
    : JT G h0 p l e R s m args below meth c A nL Q k9 n9 pc lv (.int (nI b) :: .int (nI a) :: st) M T := by
  exact jt_icmp_ge C hd ht (fun h => kt ((nI_leI hb ha).mp h)) (fun h => kf (Nat.not_le.mp fun q => h ((nI_leI hb ha).mpr q)))
theorem jt_icmp_gtN (C : Cx G p s m args meth c A cc nL own Ts) {a b : Nat} {off : Int} {tgt : Nat} (hd : decode cc pc = .ok (.if_icmp .gt off, 3)) (ht : (pc : Int) + off = (tgt : Int)) (ha : a < 2 ^ 31) (hb : b < 2 ^ 31)
    (kt : b < a → JT G h0 p l e R s m args below meth c A nL Q k9 n9 tgt lv st M T)
    (kf : a ≤ b → JT G h0 p l e R s m args below meth c A nL Q k9 n9 (pc + 3) lv st M T)
    : JT G h0 p l e R s m args below meth c A nL Q k9 n9 pc lv (.int (nI b) :: .int (nI a) :: st) M T := by
  exact jt_icmp_gt C hd ht (fun h => kt ((nI_ltI hb ha).mp h)) (fun h => kf (Nat.not_lt.mp fun q => h ((nI_ltI hb ha).mpr q)))
theorem jt_icmp_leN (C : Cx G p s m args meth c A cc nL own Ts) {a b : Nat} {off : Int} {tgt : Nat} (hd : decode cc pc = .ok (.if_icmp .le off, 3)) (ht : (pc : Int) + off = (tgt : Int)) (ha : a < 2 ^ 31) (hb : b < 2 ^ 31)
    (kt : a ≤ b → JT G h0 p l e R s m args below meth c A nL Q k9 n9 tgt lv st M T)
    (kf : b < a → JT G h0 p l e R s m args below meth c A nL Q k9 n9 (pc + 3) lv st M T)
    : JT G h0 p l e R s m args below meth c A nL Q k9 n9 pc lv (.int (nI b) :: .int (nI a) :: st) M T := by
  exact jt_icmp_le C hd ht (fun h => kt ((nI_leI ha hb).mp h)) (fun h => kf (Nat.not_le.mp fun q => h ((nI_leI ha hb).mpr q)))
theorem jt_if_eqB (C : Cx G p s m args meth c A cc nL own Ts) {b : Bool} {off : Int} {tgt : Nat} (hd : decode cc pc = .ok (.ifCond .eq off, 3)) (ht : (pc : Int) + off = (tgt : Int))
    (kt : b = false → JT G h0 p l e R s m args below meth c A nL Q k9 n9 tgt lv st M T)
    (kf : b = true → JT G h0 p l e R s m args below meth c A nL Q k9 n9 (pc + 3) lv st M T)
    : JT G h0 p l e R s m args below meth c A nL Q k9 n9 pc lv (.int (bI b) :: st) M T := by
  cases b with
  | true => exact jt_if_eq C hd ht (fun h => absurd h (by decide)) (fun _ => kf rfl)
  | false => exact jt_if_eq C hd ht (fun _ => kt rfl) (fun h => absurd h (by decide))
theorem jt_if_neB (C : Cx G p s m args meth c A cc nL own Ts) {b : Bool} {off : Int} {tgt : Nat} (hd : decode cc pc = .ok (.ifCond .ne off, 3)) (ht : (pc : Int) + off = (tgt : Int))
    (kt : b = true → JT G h0 p l e R s m args below meth c A nL Q k9 n9 tgt lv st M T)
    (kf : b = false → JT G h0 p l e R s m args below meth c A nL Q k9 n9 (pc + 3) lv st M T)
    : JT G h0 p l e R s m args below meth c A nL Q k9 n9 pc lv (.int (bI b) :: st) M T := by
  cases b with
  | true => exact jt_if_ne C hd ht (fun _ => kt rfl) (fun h => absurd h (by decide))
  | false => exact jt_if_ne C hd ht (fun h => absurd rfl h) (fun _ => kf rfl)
theorem jt_icmp_eqO (C : Cx G p s m args meth c A cc nL own Ts) {a : Nat} {off : Int} {tgt : Nat} (hd : decode cc pc = .ok (.if_icmp .eq off, 3)) (ht : (pc : Int) + off = (tgt : Int)) (ha : a < 2 ^ 31)
    (kt : a = 0 → JT G h0 p l e R s m args below meth c A nL Q k9 n9 tgt lv st M T) (kf : ¬ a = 0 → JT G h0 p l e R s m args below meth c A nL Q k9 n9 (pc + 3) lv st M T) : JT G h0 p l e R s m args below meth c A nL Q k9 n9 pc lv (.int (-1) :: .int (oI a) :: st) M T :=
  jt_icmp_eq C hd ht (fun h => kt ((oI_m1 ha).mp h)) (fun h => kf (fun q => h ((oI_m1 ha).mpr q)))
theorem jt_if_ltO (C : Cx G p s m args meth c A cc nL own Ts) {a : Nat} {off : Int} {tgt : Nat} (hd : decode cc pc = .ok (.ifCond .lt off, 3)) (ht : (pc : Int) + off = (tgt : Int)) (ha : a < 2 ^ 31)
    (kt : a = 0 → JT G h0 p l e R s m args below meth c A nL Q k9 n9 tgt lv st M T)
    (kf : ¬ a = 0 → JT G h0 p l e R s m args below meth c A nL Q k9 n9 (pc + 3) lv st M T)
    : JT G h0 p l e R s m args below meth c A nL Q k9 n9 pc lv (.int (oI a) :: st) M T := jt_if_lt C hd ht (fun h => kt ((oI_neg ha).mp h)) (fun h => kf (fun q => h ((oI_neg ha).mpr q)))
theorem jt_if_geO (C : Cx G p s m args meth c A cc nL own Ts) {a : Nat} {off : Int} {tgt : Nat} (hd : decode cc pc = .ok (.ifCond .ge off, 3)) (ht : (pc : Int) + off = (tgt : Int)) (ha : a < 2 ^ 31)
    (kt : ¬ a = 0 → JT G h0 p l e R s m args below meth c A nL Q k9 n9 tgt lv st M T)
    (kf : a = 0 → JT G h0 p l e R s m args below meth c A nL Q k9 n9 (pc + 3) lv st M T)
    : JT G h0 p l e R s m args below meth c A nL Q k9 n9 pc lv (.int (oI a) :: st) M T := jt_if_ge C hd ht (fun h => kt (fun q => Int32.not_lt.mpr h ((oI_neg ha).mpr q))) (fun h => kf ((oI_neg ha).mp (Int32.not_le.mp h)))
theorem jt_icmp_neO (C : Cx G p s m args meth c A cc nL own Ts) {a : Nat} {off : Int} {tgt : Nat} (hd : decode cc pc = .ok (.if_icmp .ne off, 3)) (ht : (pc : Int) + off = (tgt : Int)) (ha : a < 2 ^ 31)
    (kt : ¬ a = 0 → JT G h0 p l e R s m args below meth c A nL Q k9 n9 tgt lv st M T) (kf : a = 0 → JT G h0 p l e R s m args below meth c A nL Q k9 n9 (pc + 3) lv st M T) : JT G h0 p l e R s m args below meth c A nL Q k9 n9 pc lv (.int (-1) :: .int (oI a) :: st) M T :=
  jt_icmp_ne C hd ht (fun h => kt (fun q => h ((oI_m1 ha).mpr q))) (fun h => kf ((oI_m1 ha).mp h))
theorem jt_icmp_neOO (C : Cx G p s m args meth c A cc nL own Ts) {a b : Nat} {off : Int} {tgt : Nat} (hd : decode cc pc = .ok (.if_icmp .ne off, 3)) (ht : (pc : Int) + off = (tgt : Int)) (ha : a < 2 ^ 31) (hb : b < 2 ^ 31)
    (kt : ¬ a = b → JT G h0 p l e R s m args below meth c A nL Q k9 n9 tgt lv st M T) (kf : a = b → JT G h0 p l e R s m args below meth c A nL Q k9 n9 (pc + 3) lv st M T) : JT G h0 p l e R s m args below meth c A nL Q k9 n9 pc lv (.int (oI b) :: .int (oI a) :: st) M T :=
  jt_icmp_ne C hd ht (fun h => kt (fun q => h ((oI_eq ha hb).mpr q))) (fun h => kf ((oI_eq ha hb).mp h))
theorem jt_cutI (pc2 : Nat) (v : Int32) (K : JT G h0 p l e R s m args below meth c A nL Q k9 n9 pc2 lv (.int v :: st) M T) (k : JT G h0 p l e R s m args below meth c A nL Q k9 n9 pc2 lv (.int v :: st) M T → JT G h0 p l e R s m args below meth c A nL Q k9 n9 pc lv st M T) : JT G h0 p l e R s m args below meth c A nL Q k9 n9 pc lv st M T := k K
theorem jt_join (B : Bool) (K : JT G h0 p l e R s m args below meth c A nL Q k9 n9 pc lv (.int (bI B) :: st) M T) {v : Int32} (h : v = bI B) : JT G h0 p l e R s m args below meth c A nL Q k9 n9 pc lv (.int v :: st) M T := by
  subst h; exact K
theorem jt_cut (pc2 : Nat) (B : Bool) (K : JT G h0 p l e R s m args below meth c A nL Q k9 n9 pc2 lv (.int (bI B) :: st) M T) (k : JT G h0 p l e R s m args below meth c A nL Q k9 n9 pc2 lv (.int (bI B) :: st) M T → JT G h0 p l e R s m args below meth c A nL Q k9 n9 pc lv st M T) : JT G h0 p l e R s m args below meth c A nL Q k9 n9 pc lv st M T := k K
theorem jt_zreturn (C : Cx G p s m args meth c A cc nL own Ts) {b : Bool} (hr : meth.sig.returnType = some .boolean) (hd : decode cc pc = .ok (.ireturn, 1)) (hq : Qf (some (.int (bI b))) M) : JT G h0 p l e R s m args below meth c A nL (MQ below (QQ G Qf A) args s k9 n9 A) k9 n9 pc lv [.int (bI b)] M T := by
  intro H locs ls hP hS hv
  exact W.zret C.1 C.2.1 hr (by cases b <;> rfl) (fun t ht hW => ⟨⟨_, M, rfl, hq, by rw [ht]; exact WT_pre hP⟩, hS.F ht⟩) hS.2.2 hd C.2.2.2.2.2.1
theorem jt_iald (C : Cx G p s m args meth c A cc nL own Ts) {a : Nat} (hd : decode cc pc = .ok (.iaload, 1)) (ha : a < 64)
    (k : JT G h0 p l e R s m args below meth c A nL Q k9 n9 (pc + 1) lv (.int (T a) :: st) M T)
    : JT G h0 p l e R s m args below meth c A nL Q k9 n9 pc lv (.int (nI a) :: .ref h0 :: st) M T := by
  intro H locs ls hP hS hv
  have k2 := k H locs ls hP hS hv
  rw [← nI_clamp (Nat.lt_trans ha (by decide : 64 < 2 ^ 31))] at k2
  exact va_iald C.1 C.2.1 C.K hP NN 0 (WT_at (T := T)) rfl (vp_in_nI ha (by decide)) hd k2
theorem jt_iast (C : Cx G p s m args meth c A cc nL own Ts) (hh : HT G A h0) {a : Nat} {v : Int32} (hd : decode cc pc = .ok (.iastore, 1)) (ha : a < 64)
    (k : JT G h0 p l e R s m args below meth c A nL Q k9 n9 (pc + 1) lv st M (upd T a v))
    : JT G h0 p l e R s m args below meth c A nL Q k9 n9 pc lv (.int v :: .int (nI a) :: .ref h0 :: st) M T := by
  intro H locs ls hP hS hv
  refine va_iast C.1 C.2.1 C.K hP (WT_D C.D hh) hS NN 0 (WT_at (T := T)) rfl (vp_in_nI ha (by decide)) hd (fun H1 locs1 hP1 _ hS1 => ?_)
  rw [nI_clamp (Nat.lt_trans ha (by decide : 64 < 2 ^ 31))] at hP1
  have e : (WT G h0 M T).set NN (h0, .inl (G.2.1 0, 64, .inl (upd T a v))) = WT G h0 M (upd T a v) := WT_set
  rw [e] at hP1
  exact k H1 locs1 ls hP1 hS1 hv
theorem jt_run (C : Cx G p s m args meth c A cc nL own Ts) (hh : HT G A h0) {rest st0 : List Value} {a9 : Array Value}
    (hr : ∀ (H : Heap) (locs : List Loc) (ls : Array Slot), va_P G.1 vwCl (WS G M) H → va_S A s.heap H locs → lv_has ls nL lv → va_Run p l e R s m args below meth c H locs k9 n9 0 0 (F0 m pc ls st0) rest (QQ G Qf (AA G H.size) a9) (AA G H.size))
    (k : ∀ (v : Option Value) (M' : MM), Qf v M' → JT G h0 p l e R s m args below meth c A nL Q k9 n9 (pc + 3) lv (v.toList ++ rest) M' T) : JT G h0 p l e R s m args below meth c A nL Q k9 n9 pc lv st0 M T := by
  intro H locs ls hP hS hv T0 hT X
  have hlt : h0 < H.size := (WT_suf hP 0 _ rfl).lt
  obtain ⟨v, s9, t, T', L, e0, X', hL, e1, e2, ⟨⟨v', M', hv', hq, hP1⟩, hz, hk⟩, st9⟩ := hr H locs ls (WT_pre hP) hS hv T0 hT X
  cases hv'
  rw [e0] at hz hk
  have hA : ∀ q, AA G H.size q → A q := by
    intro q hq
    rcases hq with ⟨i, hi, rfl⟩ | h
    · exact C.2.2.2.2.2.2.2.2.1 i hi
    · exact C.2.2.2.2.2.2.2.2.2 q (Nat.le_trans hS.1 h)
  have hno : ¬ AA G H.size h0 := fun h => by
    rcases h with ⟨i, hi, e⟩ | h
    · exact hh.1 i hi e.symm
    · exact Nat.not_le.mpr hlt h
  have hP2 : va_P G.1 vwCl (WT G h0 M' T) t.heap := hP1.app ((WT_suf hP).kept (fun k q hk2 => by
    rcases Nat.eq_zero_or_pos k with z | z
    · subst z; cases hk2; exact hk h0 hlt hno
    · rw [List.getElem?_eq_none z] at hk2; cases hk2))
  obtain ⟨t2, a1, b1⟩ := k v M' hq T'.heap (locs ++ L) ls (by rw [e1]; exact hP2)
    ⟨Nat.le_trans hS.1 (by rw [e1]; exact hz), fun q h1 h2 => by rw [e1, hk q (Nat.lt_of_lt_of_le h1 hS.1) (fun z => h2 (hA q z))]; exact hS.2.1 q h1 h2, fun q hq => by
      rcases List.mem_append.mp hq with h | h
      · exact hS.2.2 q h
      · exact hA _ (hL q h)⟩ hv T' rfl X'
  exact ⟨t2, st9 t2 a1, b1⟩
theorem jt_callV (C : Cx G p s m args meth c A cc nL own Ts) (hh : HT G A h0) {i ci index d maxL n : Nat} {As rest st0 fs : List Value} {y : MethodName} {ws' ws2 : List Cond} {bytes : ByteArray} {ret : Option FieldType} {D9 : String} {T9 : u_T} {N : Nat}
    (hC : Ct l G y ws' d (.ref (G.2.2 i) :: As) M Qf) (hd : decode cc pc = .ok (.invokevirtual index, 3)) (hc : cellOf G M i = .inr (ci, fs)) (hi : i < NN) (hcl : vwCl[ci]? = some (D9, T9, N)) (hG : GoodIn Ts (wsV own index D9 y ws')) (hw : ws' = Cond.code y bytes maxL ret :: ws2)
    (hy : y.cls = D9 ∧ y.cls ≠ "java/lang/invoke/MethodHandle" ∧ y.cls ≠ "java/lang/invoke/VarHandle" ∧ (parseMethodDescriptor y.desc).map (fun d => d.parameters.length) = some n) (hn : As.length = n) (hst : st0 = As.reverse ++ .ref (G.2.2 i) :: rest) (hcat : (rest.map fun v => v.category).sum ≤ 8) (hR : (rmD d).frames + 1 ≤ R.frames ∧ 8 + (maxL + 11) + (rmD d).locals ≤ R.locals) (hkn : k9 ≤ R.cells ∧ n9 ≤ R.slots)
    (k : ∀ (v : Option Value) (M' : MM), Qf v M' → JT G h0 p l e R s m args below meth c A nL Q k9 n9 (pc + 3) lv (v.toList ++ rest) M' T) : JT G h0 p l e R s m args below meth c A nL Q k9 n9 pc lv st0 M T := by
  refine jt_run C hh (rest := rest) (a9 := (Value.ref (G.2.2 i) :: As).toArray) (fun H locs ls hP hS hv => ?_) k
  exact va_runV (As := As) (rest := rest) ⟨C.1, C.2.1, C.2.2.1, C.2.2.2.1, C.2.2.2.2.1⟩ (hC H.size) (cwV n C.2.2.2.2.1 hG hw rfl rfl hy hR) ⟨Wd.blind, va_recv C.K hP hcl (WS_get hi hc), fun U hU hW => ⟨rfl, by rw [hU], by rw [hU]; exact hP, C.2.2.2.2.2.2.1.warm hW, C.2.2.2.2.2.2.2.1⟩⟩ rfl hn hv.1 hst (lv_room hcat) hd hkn
theorem jt_callS (C : Cx G p s m args meth c A cc nL own Ts) (hh : HT G A h0) {index d maxL n : Nat} {As rest st0 : List Value} {y : MethodName} {ws' ws2 : List Cond} {bytes : ByteArray} {ret : Option FieldType}
    (hC : Ct l G y ws' d As M Qf) (hd : decode cc pc = .ok (.invokestatic index, 3)) (hG : GoodIn Ts (va_wsS own index y ws')) (hw : ws' = Cond.code y bytes maxL ret :: ws2)
    (hy : y.cls ≠ "java/lang/invoke/MethodHandle" ∧ y.cls ≠ "java/lang/invoke/VarHandle" ∧ (parseMethodDescriptor y.desc).map (fun d => d.parameters.length) = some n) (hn : As.length = n) (hst : st0 = As.reverse ++ rest) (hcat : (rest.map fun v => v.category).sum ≤ 8) (hR : (rmD d).frames + 1 ≤ R.frames ∧ 8 + (maxL + 11) + (rmD d).locals ≤ R.locals) (hkn : k9 ≤ R.cells ∧ n9 ≤ R.slots)
    (k : ∀ (v : Option Value) (M' : MM), Qf v M' → JT G h0 p l e R s m args below meth c A nL Q k9 n9 (pc + 3) lv (v.toList ++ rest) M' T) : JT G h0 p l e R s m args below meth c A nL Q k9 n9 pc lv st0 M T := by
  refine jt_run C hh (rest := rest) (a9 := As.toArray) (fun H locs ls hP hS hv => ?_) k
  exact va_runS (As := As) (rest := rest) ⟨C.1, C.2.1, C.2.2.1, C.2.2.2.1, C.2.2.2.2.1⟩ (hC H.size) (va_cwS n C.2.2.2.2.1 hG hw rfl rfl hy hR) ⟨Wd.blind, fun U hU hW => ⟨rfl, by rw [hU], by rw [hU]; exact hP, C.2.2.2.2.2.2.1.warm hW, C.2.2.2.2.2.2.2.1⟩⟩ rfl hn hv.1 hst (lv_room hcat) hd hkn
theorem jt_callSH (C : Cx G p s m args meth c A cc nL own Ts) (hh : HT G A h0) {index d maxL n : Nat} {hh9 : List (Nat × Nat × Nat × Nat)} {As rest st0 : List Value} {y : MethodName} {ws' ws2 : List Cond} {bytes : ByteArray} {ret : Option FieldType}
    (hC : Ct l G y ws' d As M Qf) (hd : decode cc pc = .ok (.invokestatic index, 3)) (hG : GoodIn Ts (va_wsS own index y ws')) (hw : ws' = Cond.codeWith y bytes maxL ret hh9 :: ws2)
    (hy : y.cls ≠ "java/lang/invoke/MethodHandle" ∧ y.cls ≠ "java/lang/invoke/VarHandle" ∧ (parseMethodDescriptor y.desc).map (fun d => d.parameters.length) = some n) (hn : As.length = n) (hst : st0 = As.reverse ++ rest) (hcat : (rest.map fun v => v.category).sum ≤ 8) (hR : (rmD d).frames + 1 ≤ R.frames ∧ 8 + (maxL + 11) + (rmD d).locals ≤ R.locals) (hkn : k9 ≤ R.cells ∧ n9 ≤ R.slots)
    (k : ∀ (v : Option Value) (M' : MM), Qf v M' → JT G h0 p l e R s m args below meth c A nL Q k9 n9 (pc + 3) lv (v.toList ++ rest) M' T) : JT G h0 p l e R s m args below meth c A nL Q k9 n9 pc lv st0 M T := by
  refine jt_run C hh (rest := rest) (a9 := As.toArray) (fun H locs ls hP hS hv => ?_) k
  exact vx_runSW (As := As) (rest := rest) ⟨C.1, C.2.1, C.2.2.1, C.2.2.2.1, C.2.2.2.2.1⟩ (hC H.size) (vx_cwSW n C.2.2.2.2.1 hG hw rfl rfl hy hR) ⟨Wd.blind, fun U hU hW => ⟨rfl, by rw [hU], by rw [hU]; exact hP, C.2.2.2.2.2.2.1.warm hW, C.2.2.2.2.2.2.2.1⟩⟩ rfl hn hv.1 hst (lv_room hcat) hd hkn
theorem tk_I {r : Int32} {M1 : MM} {rest : List Value} {pc1 : Nat} (k : JT G h0 p l e R s m args below meth c A nL Q k9 n9 pc1 lv (.int r :: rest) M1 T) : ∀ (v : Option Value) (M' : MM), rI r M1 v M' → JT G h0 p l e R s m args below meth c A nL Q k9 n9 pc1 lv (v.toList ++ rest) M' T := by
  rintro v M' ⟨rfl, rfl⟩; exact k
theorem tk_D {r : UInt64} {M1 : MM} {rest : List Value} {pc1 : Nat} (k : JT G h0 p l e R s m args below meth c A nL Q k9 n9 pc1 lv (.double r :: rest) M1 T) : ∀ (v : Option Value) (M' : MM), rD r M1 v M' → JT G h0 p l e R s m args below meth c A nL Q k9 n9 pc1 lv (v.toList ++ rest) M' T := by
  rintro v M' ⟨rfl, rfl⟩; exact k
/-- the row is made -/
theorem j_newT (C : Cx G p s m args meth c A cc nL own Ts) (hd : decode cc pc = .ok (.newarray .int, 2)) (harr : Cond.arrayClass .int ∈ Ts) (hc : k9 + 1 ≤ R.cells ∧ n9 + 64 ≤ R.slots)
    (k : ∀ h0 : Nat, HT G A h0 → JT G h0 p l e R s m args below meth c A nL Q (k9 + 1) (n9 + 64) (pc + 2) lv (.ref h0 :: st) M (fun _ => 0)) : J G p l e R s m args below meth c A nL Q k9 n9 pc lv (.int (nI 64) :: st) M := by
  intro H locs ls hP hS hv
  refine va_newa (atype := .int) (ty := .int) (a0 := (64, .inl (fun _ => 0))) (n := 64) C.1 C.2.1 (C.w harr) rfl C.K hP C.D hS C.2.2.2.2.2.2.2.2.2 (fun _ => rfl) (nI_pos (by decide)) (nI_clamp (by decide)) (by decide) hc.1 hc.2 hd (fun q cA H1 hK hP1 hD1 hS1 => ?_)
  have h2 := (hK.2 0 _ rfl).2
  have h1 := (hK.2 4 (cA, .int) rfl).2
  obtain rfl : cA = G.2.1 0 := va_RA_uniq2 h1 h2
  have hat : (WS G M ++ [(q, (.inl (G.2.1 0, 64, .inl (fun _ => 0)) : va_E))])[NN]? = some (q, .inl (G.2.1 0, 64, .inl (fun _ => 0))) := by
    rw [List.getElem?_append_right (by rw [WS_len]; exact Nat.le_refl _), WS_len, Nat.sub_self]; rfl
  refine k q ⟨fun i hi e => ?_, hD1.2 NN _ hat⟩ H1 locs ls hP1 hS1 hv
  have h3 : (WS G M ++ [(q, (.inl (G.2.1 0, 64, .inl (fun _ => 0)) : va_E))])[i]? = some (G.2.2 i, cellOf G M i) := by
    rw [List.getElem?_append_left (by rw [WS_len]; exact hi)]; exact WS_get hi rfl
  have := hD1.1 i NN _ _ h3 hat e
  omega
end JTr
