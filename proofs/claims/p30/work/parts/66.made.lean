/-! objects are made: worlds as lists, X the cells that are written, P those behind them -/
def JC (G : GG) (p : Program) (l : Launch) (e : Env) (R : Room) (s : State) (m : MethodId) (args : Array Value) (below : List Frame) (meth : Method) (c : Code) (A : Nat → Prop) (nL : Nat) (Q : State → Prop) (k9 n9 : Nat) (pc : Nat) (lv : List (Nat × Value)) (st : List Value) (X P : va_W) : Prop :=
  ∀ (H : Heap) (locs : List Loc) (ls : Array Slot), va_P G.1 vwCl (X ++ P) H → va_D A (X ++ P) → va_S A s.heap H locs → lv_has ls nL lv → W p l e R s m args below meth c H locs k9 n9 Q (F0 m pc ls st)
def nestM : List Cond := [.methodLinkNest "PotLabels" 25 yX4_init "PotLabels", .methodLinkNest "PotLabels" 32 yX2_init "PotLabels"]
theorem nestM_form : ∀ w ∈ nestM, ∃ (a : String) (i : Nat) (x : MethodName) (h : String), w = .methodLinkNest a i x h := by
  intro w hw
  simp only [nestM, List.mem_cons, List.not_mem_nil, or_false] at hw
  rcases hw with h | h <;> exact ⟨_, _, _, _, h⟩
def KC (G : GG) (s : State) : Prop := KW G s ∧ va_AO "PotLabels$Bureau" s ∧ ∀ w ∈ nestM, va_Nw w s
theorem KC.warm {G : GG} {s U : State} (hW : s.WarmedH U.vm) (h : KC G s) : KC G U := ⟨h.1.warm hW, va_AO.moved hW.alike h.2.1, fun w hw => by
  obtain ⟨a, i, x, h9, rfl⟩ := nestM_form w hw
  exact va_Nw.warmM hW (h.2.2 _ hw)⟩
theorem KC.calling {G : GG} {U : State} {g : JFrame} {mk : MethodId} {a : Array Value} (h : KC G U) : KC G (U.calling g mk a) := ⟨h.1.calling, va_AO.moved (u := U) (U := U.calling g mk a) (Vm.Alike.refl U.vm) h.2.1, fun w hw => by
  obtain ⟨a, i, x, h9, rfl⟩ := nestM_form w hw
  exact va_Nw.same rfl rfl (h.2.2 _ hw)⟩
def CxC (G : GG) (p : Program) (s : State) (m : MethodId) (args : Array Value) (meth : Method) (c : Code) (A : Nat → Prop) (cc : ByteArray) (nL : Nat) (own : String) (Ts : List Cond) : Prop :=
  p.tables.exec = Jvm.exec ∧ c.code = cc ∧ c.maxLocals = nL ∧ s.vm.findClass own = some m.cls ∧ (∀ w ∈ Ts, w.before args s = true) ∧ meth.locks = false ∧ KC G s ∧ ∀ q, s.heap.size ≤ q → A q
theorem xp {α : Type} {X P : List α} {i : Nat} {x : α} (h : X[i]? = some x) : (X ++ P)[i]? = some x := by
  rw [List.getElem?_append_left (List.getElem?_eq_some_iff.mp h).1]; exact h
theorem sufP {D : va_G} {cl : List vw_C} {a b : va_W} {H : Heap} (h : va_P D cl (a ++ b) H) : va_P D cl b H := fun k q hk => h (a.length + k) q (by
  rw [List.getElem?_append_right (Nat.le_add_right _ _), Nat.add_sub_cancel_left]; exact hk)
theorem preP {D : va_G} {cl : List vw_C} {a b : va_W} {H : Heap} (h : va_P D cl (a ++ b) H) : va_P D cl a H := fun k q hk => h k q (xp hk)
theorem sufD {A : Nat → Prop} {a b : va_W} (h : va_D A (a ++ b)) : va_D A b := by
  have e : ∀ {k : Nat} {q : Nat × va_E}, b[k]? = some q → (a ++ b)[a.length + k]? = some q := fun hk => by
    rw [List.getElem?_append_right (Nat.le_add_right _ _), Nat.add_sub_cancel_left]; exact hk
  exact ⟨fun i j p q hp hq h1 => by have := h.1 _ _ p q (e hp) (e hq) h1; omega, fun k q hk => h.2 _ q (e hk)⟩
theorem preD {A : Nat → Prop} {a b : va_W} (h : va_D A (a ++ b)) : va_D A a := ⟨fun i j p q hp hq h1 => h.1 i j p q (xp hp) (xp hq) h1, fun k q hk => h.2 k q (xp hk)⟩
/-- the callee's cells lie last: what came back beside the rest, which is unchanged -/
theorem jc_join {A : Nat → Prop} {D : va_G} {cl : List vw_C} {wr w0 w1 : va_W} {H H1 : Heap} (hP : va_P D cl (wr ++ w0) H) (hD : va_D A (wr ++ w0)) (hk : ∀ q : Nat, q < H.size → ¬ va_A w0 H.size q → H1[q]? = H[q]?) (hA : ∀ q, va_A w0 H.size q → A q) (hP1 : va_P D cl w1 H1) (hD1 : va_D (va_A w0 H.size) w1) : va_P D cl (wr ++ w1) H1 ∧ va_D A (wr ++ w1) := by
  have hn : ∀ (k : Nat) (q : Nat × va_E), wr[k]? = some q → ¬ va_A w0 H.size q.1 := by
    intro k q hq ha
    have hlt := ((preP hP) k q hq).lt
    rcases ha with ⟨k2, e2, h2⟩ | h2
    · have h3 : (wr ++ w0)[wr.length + k2]? = some (q.1, e2) := by
        rw [List.getElem?_append_right (Nat.le_add_right _ _), Nat.add_sub_cancel_left]; exact h2
      have h4 := hD.1 _ _ _ _ (xp (P := w0) hq) h3 rfl
      have h5 := (List.getElem?_eq_some_iff.mp hq).1
      omega
    · omega
  refine ⟨((preP hP).kept (fun k q hq => hk q.1 (((preP hP) k q hq).lt) (hn k q hq))).app hP1, (preD hD).app (hD1.weaken (fun _ q _ h => hA q.1 h)) (fun i j p q hp hq h => ?_)⟩
  have h2 := hD1.2 j q hq
  rw [← h] at h2
  exact hn i p hp h2
theorem va_RA_uniq {U : State} {x y : ClassId} {ty : FieldType} (h1 : va_RA U x ty) (h2 : va_RA U y ty) : x = y := by
  cases ty <;> first | exact Option.some.inj (Eq.trans (Eq.symm h1) h2) | (obtain ⟨_, _, _, _, _, a⟩ := h1; obtain ⟨_, _, _, _, _, b⟩ := h2; exact Option.some.inj (a.symm.trans b))
theorem arrV_ext {cI : ClassId} {N : Nat} {f g : Nat → Value} (h : ∀ j, j < N → f j = g j) : arrV cI N f = arrV cI N g := by
  unfold arrV
  have e : (fun j : Fin N => f j.val) = fun j => g j.val := funext fun j => h j.val j.isLt
  rw [e]
theorem refP {D : va_G} {cl : List vw_C} {ws : va_W} {H : Heap} {i n a : Nat} {cA : ClassId} {f g : Nat → Option Nat} (hP : va_P D cl ws H) {A : Nat → Prop} (hD : va_D A ws) (hx : ws[i]? = some (a, .inl (cA, n, .inr (.inr (.inr (.inr f)))))) (h : ∀ j, j < n → f j = g j) : va_P D cl (ws.set i (a, .inl (cA, n, .inr (.inr (.inr (.inr g)))))) H := hP.set hD hx (by
  have h1 := hP i _ hx
  show H[a]? = some (vp_cell cA (n, .inr (.inr (.inr (.inr g)))))
  have h2 : H[a]? = some (vp_cell cA (n, .inr (.inr (.inr (.inr f))))) := h1
  rw [h2, vp_cell_q, vp_cell_q]
  exact congrArg some (arrV_ext (fun j hj => by rw [h j hj]))) (fun _ _ => rfl)
/-- a contract over cells of its own -/
def QC (G : GG) (Pw : Option Value → va_W → Prop) (A : Nat → Prop) : Array Value → State → Outcome → State → Prop := fun _ st oc t => (∃ (v : Option Value) (w1 : va_W), oc = .returned v ∧ Pw v w1 ∧ va_P G.1 vwCl w1 t.heap ∧ va_D A w1) ∧ va_F A st t
def WC (G : GG) (w0 : va_W) (sz : Nat) (U : State) : Prop := U.heap.size = sz ∧ va_P G.1 vwCl w0 U.heap ∧ KC G U ∧ va_D (fun _ => True) w0
def Cz (l : Launch) (G : GG) (y : MethodName) (ws : List Cond) (rm : Room) (mc ms : Nat) (av : List Value) (w0 : va_W) (Pw : Option Value → va_W → Prop) : Prop :=
  ∀ sz : Nat, Met l y ws rm (va_Pc av (WC G w0 sz)) (QC G Pw (va_A w0 sz)) mc ms (va_A w0 sz)
theorem WC.blind {G : GG} {w0 : va_W} {av : List Value} {sz : Nat} : FrameBlind (va_Pc av (WC G w0 sz)) := fun a U g mk q => by
  obtain ⟨q0, q1, qP, qK, qD⟩ := q
  exact ⟨q0, q1, qP, qK.calling, qD⟩
theorem Cz.of {l : Launch} {G : GG} {y : MethodName} {ws ws' : List Cond} {rm : Room} {mc ms : Nat} {av : List Value} {w0 : va_W} {Pw : Option Value → va_W → Prop} {cc : ByteArray} {maxL : Nat} {ret : Option FieldType} {lv : List (Nat × Value)} (hy : plainName y.cls = true) (hw : ws = Cond.code y cc maxL ret :: ws') (hlv : lv_args 0 av = lv) (hlen : (lg_sl av).length ≤ maxL)
    (body : ∀ (p : Program) (e : Env) (s : State) (m : MethodId) (below : List Frame) (meth : Method) (c : Code) (A : Nat → Prop), CxC G p s m av.toArray meth c A cc maxL y.cls ws → meth.name = y.name → meth.sig.returnType = ret → JC G p l e rm s m av.toArray below meth c A maxL (MQ below (QC G Pw A) av.toArray s mc ms A) 0 0 0 lv [] w0 []) : Cz l G y ws rm mc ms av w0 Pw := by
  intro sz
  refine Met.ofW (cc := cc) (maxL := maxL) (ret := ret) hy hw ?_
  intro p e s m args below meth c s₁ B hml hv
  obtain ⟨rfl, hsz, hP, hK, hD⟩ := hv
  subst hsz
  have C : CxC G p s m av.toArray meth c (va_A w0 s.heap.size) cc maxL y.cls ws := ⟨B.exec, B.bytes, hml, findClass_of_methodNamed B.named, atoms_spec (ws := ws) B.pre, B.notSynchronized, hK, fun q h => Or.inr h⟩
  have hl := lv_entry av hlen
  rw [hlv] at hl
  rw [lg_entry_eq]
  exact body p e s m below meth c _ C (name_of_methodNamed B.named B.method).1 B.returns s.heap [] _ (by rw [List.append_nil]; exact hP) (by rw [List.append_nil]; exact hD.self) va_S.rf hl
section JCr
variable {G : GG} {p : Program} {l : Launch} {e : Env} {R : Room} {s : State} {m : MethodId} {args : Array Value} {below : List Frame} {meth : Method} {c : Code} {A : Nat → Prop} {nL : Nat} {Q : State → Prop} {k9 n9 pc : Nat} {lv : List (Nat × Value)} {st : List Value} {X P : va_W} {cc : ByteArray} {own : String} {Ts : List Cond}
theorem CxC.K (C : CxC G p s m args meth c A cc nL own Ts) : va_K G.1 vwCl (tysG G) s := C.2.2.2.2.2.2.1.1.1
theorem CxC.w (C : CxC G p s m args meth c A cc nL own Ts) {w : Cond} (h : w ∈ Ts) : w.before args s = true := C.2.2.2.2.1 w h
theorem CxC.Aq (C : CxC G p s m args meth c A cc nL own Ts) : ∀ q, s.heap.size ≤ q → A q := C.2.2.2.2.2.2.2
theorem jc_iconst (C : CxC G p s m args meth c A cc nL own Ts) {n : Int} {v : Int32} (hd : decode cc pc = .ok (.iconst n, 1))
    (hv9 : Int32.ofInt n = v) (k : JC G p l e R s m args below meth c A nL Q k9 n9 (pc + 1) lv (.int v :: st) X P)
    : JC G p l e R s m args below meth c A nL Q k9 n9 pc lv st X P := by
  intro H locs ls hP hD hS hv
  exact lv_iconst C.1 C.2.1 hd hv9 (k H locs ls hP hD hS hv)
theorem jc_bipush (C : CxC G p s m args meth c A cc nL own Ts) {n : Int} {v : Int32} (hd : decode cc pc = .ok (.bipush n, 2))
    (hv9 : (Int8.ofInt n).toInt32 = v) (k : JC G p l e R s m args below meth c A nL Q k9 n9 (pc + 2) lv (.int v :: st) X P)
    : JC G p l e R s m args below meth c A nL Q k9 n9 pc lv st X P := by
  intro H locs ls hP hD hS hv
  exact lv_bipush C.1 C.2.1 hd hv9 (k H locs ls hP hD hS hv)
theorem jc_sipush (C : CxC G p s m args meth c A cc nL own Ts) {n : Int} {v : Int32} (hd : decode cc pc = .ok (.sipush n, 3))
    (hv9 : (Int16.ofInt n).toInt32 = v) (k : JC G p l e R s m args below meth c A nL Q k9 n9 (pc + 3) lv (.int v :: st) X P)
    : JC G p l e R s m args below meth c A nL Q k9 n9 pc lv st X P := by
  intro H locs ls hP hD hS hv
  exact lv_sipush C.1 C.2.1 hd hv9 (k H locs ls hP hD hS hv)
theorem jc_aload_n (C : CxC G p s m args meth c A cc nL own Ts) {i : Fin 4} {x : Nat} (hd : decode cc pc = .ok (.aload_n i, 1))
    (hl : lvg lv i = some (.ref x)) (k : JC G p l e R s m args below meth c A nL Q k9 n9 (pc + 1) lv (.ref x :: st) X P)
    : JC G p l e R s m args below meth c A nL Q k9 n9 pc lv st X P := by
  intro H locs ls hP hD hS hv
  exact lv_aload_n C.1 C.2.1 hd rfl (lvg_at hv hl) (k H locs ls hP hD hS hv)
theorem jc_iload_n (C : CxC G p s m args meth c A cc nL own Ts) {i : Fin 4} {x : Int32} (hd : decode cc pc = .ok (.iload_n i, 1))
    (hl : lvg lv i = some (.int x)) (k : JC G p l e R s m args below meth c A nL Q k9 n9 (pc + 1) lv (.int x :: st) X P)
    : JC G p l e R s m args below meth c A nL Q k9 n9 pc lv st X P := by
  intro H locs ls hP hD hS hv
  exact lv_iload_n C.1 C.2.1 hd rfl (lvg_at hv hl) (k H locs ls hP hD hS hv)
theorem jc_istore_n (C : CxC G p s m args meth c A cc nL own Ts) {i : Fin 4} {x : Int32} (hd : decode cc pc = .ok (.istore_n i, 1))
    (hn : (i : Nat) < nL) (k : JC G p l e R s m args below meth c A nL Q k9 n9 (pc + 1) (lvi (i : Nat) (.int x) (lvr (i : Nat) lv)) st X P)
    : JC G p l e R s m args below meth c A nL Q k9 n9 pc lv (.int x :: st) X P := by
  intro H locs ls hP hD hS hv
  exact lv_istore_n C.1 C.2.1 hd rfl hv hn rfl (fun ls9 h9 => k H locs ls9 hP hD hS (lvs_has h9))
theorem jc_istore (C : CxC G p s m args meth c A cc nL own Ts) {i : Nat} {x : Int32} (hd : decode cc pc = .ok (.istore i, 2))
    (hn : i < nL) (k : JC G p l e R s m args below meth c A nL Q k9 n9 (pc + 2) (lvi i (.int x) (lvr i lv)) st X P)
    : JC G p l e R s m args below meth c A nL Q k9 n9 pc lv (.int x :: st) X P := by
  intro H locs ls hP hD hS hv
  exact lv_istore C.1 C.2.1 hd hv hn rfl (fun ls9 h9 => k H locs ls9 hP hD hS (lvs_has h9))
theorem jc_astore_n (C : CxC G p s m args meth c A cc nL own Ts) {i : Fin 4} {x : Nat} (hd : decode cc pc = .ok (.astore_n i, 1))
    (hn : (i : Nat) < nL) (k : JC G p l e R s m args below meth c A nL Q k9 n9 (pc + 1) (lvi (i : Nat) (.ref x) (lvr (i : Nat) lv)) st X P)
    : JC G p l e R s m args below meth c A nL Q k9 n9 pc lv (.ref x :: st) X P := by
  intro H locs ls hP hD hS hv
  exact lv_astore_n C.1 C.2.1 hd rfl hv hn rfl (fun ls9 h9 => k H locs ls9 hP hD hS (lvs_has h9))
theorem jc_iincN (C : CxC G p s m args meth c A cc nL own Ts) {i x n : Nat} (hd : decode cc pc = .ok (.iinc i n, 3))
    (hl : lvg lv i = some (.int (nI x))) (hn : i < nL) (k : JC G p l e R s m args below meth c A nL Q k9 n9 (pc + 3) (lvi i (.int (nI (x + n))) (lvr i lv)) st X P)
    : JC G p l e R s m args below meth c A nL Q k9 n9 pc lv st X P := by
  intro H locs ls hP hD hS hv
  obtain ⟨k1, hk1⟩ := List.getElem?_of_mem (lvg_mem hl)
  exact lv_iinc C.1 C.2.1 hd hv hk1 (by rw [← nI_add]; rfl) hn rfl (fun ls9 h9 => k H locs ls9 hP hD hS (lvs_has h9))
theorem jc_dup (C : CxC G p s m args meth c A cc nL own Ts) {va : Value} (hd : decode cc pc = .ok (.dup, 1))
    (hva : va.category = 1) (k : JC G p l e R s m args below meth c A nL Q k9 n9 (pc + 1) lv (va :: va :: st) X P)
    : JC G p l e R s m args below meth c A nL Q k9 n9 pc lv (va :: st) X P := by
  intro H locs ls hP hD hS hv
  exact lv_dup C.1 C.2.1 hd hva (k H locs ls hP hD hS hv)
theorem jc_goto (C : CxC G p s m args meth c A cc nL own Ts) {off : Int} {tgt : Nat} (hd : decode cc pc = .ok (.goto off, 3))
    (ht : (pc : Int) + off = (tgt : Int)) (k : JC G p l e R s m args below meth c A nL Q k9 n9 tgt lv st X P)
    : JC G p l e R s m args below meth c A nL Q k9 n9 pc lv st X P := by
  intro H locs ls hP hD hS hv
  exact lv_goto C.1 C.2.1 hd ht (k H locs ls hP hD hS hv)
theorem jc_imulN (C : CxC G p s m args meth c A cc nL own Ts) {a b : Nat} (hd : decode cc pc = .ok (.imul, 1))
    (k : JC G p l e R s m args below meth c A nL Q k9 n9 (pc + 1) lv (.int (nI (a * b)) :: st) X P)
    : JC G p l e R s m args below meth c A nL Q k9 n9 pc lv (.int (nI b) :: .int (nI a) :: st) X P := by
  intro H locs ls hP hD hS hv
  refine lv_imul C.1 C.2.1 hd ?_
  rw [pk_mul]
  exact k H locs ls hP hD hS hv
theorem jc_iaddN (C : CxC G p s m args meth c A cc nL own Ts) {a b : Nat} (hd : decode cc pc = .ok (.iadd, 1))
    (k : JC G p l e R s m args below meth c A nL Q k9 n9 (pc + 1) lv (.int (nI (a + b)) :: st) X P)
    : JC G p l e R s m args below meth c A nL Q k9 n9 pc lv (.int (nI b) :: .int (nI a) :: st) X P := by
  intro H locs ls hP hD hS hv
  refine lv_iadd C.1 C.2.1 hd ?_
  rw [nI_add]
  exact k H locs ls hP hD hS hv
theorem jc_icmp_geN (C : CxC G p s m args meth c A cc nL own Ts) {a b : Nat} {off : Int} {tgt : Nat} (hd : decode cc pc = .ok (.if_icmp .ge off, 3)) (ht : (pc : Int) + off = (tgt : Int)) (ha : a < 2 ^ 31) (hb : b < 2 ^ 31)
    (kt : b ≤ a → JC G p l e R s m args below meth c A nL Q k9 n9 tgt lv st X P) (kf : a < b → JC G p l e R s m args below meth c A nL Q k9 n9 (pc + 3) lv st X P)
    : JC G p l e R s m args below meth c A nL Q k9 n9 pc lv (.int (nI b) :: .int (nI a) :: st) X P := by
  intro H locs ls hP hD hS hv
  exact lv_icmp_ge C.1 C.2.1 hd ht (fun h => kt ((nI_leI hb ha).mp h) H locs ls hP hD hS hv) (fun h => kf (Nat.not_le.mp fun q => h ((nI_leI hb ha).mpr q)) H locs ls hP hD hS hv)
theorem jc_to {X2 P2 : va_W} (h : X ++ P = X2 ++ P2) (k : JC G p l e R s m args below meth c A nL Q k9 n9 pc lv st X2 P2) : JC G p l e R s m args below meth c A nL Q k9 n9 pc lv st X P := fun H locs ls hP hD hS hv => k H locs ls (h ▸ hP) (h ▸ hD) hS hv
theorem jc_pick (ks : List Nat) (k : JC G p l e R s m args below meth c A nL Q k9 n9 pc (lv_pick lv ks) st X P) : JC G p l e R s m args below meth c A nL Q k9 n9 pc lv st X P := fun H locs ls hP hD hS hv => k H locs ls hP hD hS (lv_sub hv ks rfl)
theorem jc_getf (C : CxC G p s m args meth c A cc nL own Ts) {i ci index k a : Nat} {ref D9 : String} {T : u_T} {N : Nat} {fs : List Value} {v : Value} (hd : decode cc pc = .ok (.getfield index, 3)) (hx : X[i]? = some (a, .inr (ci, fs))) (hcl : vwCl[ci]? = some (D9, T, N)) (hin : ∀ w ∈ u_ws D9 T N, w ∈ Ts) (hk : k < N) (hlink : Cond.fieldLink own index ref (T k).2.1 (T k).2.2.1 ∈ Ts) (href : (T k).1 = ref) (hv9 : fs[k]? = some v)
    (k9k : JC G p l e R s m args below meth c A nL Q k9 n9 (pc + 3) lv (v :: st) X P) : JC G p l e R s m args below meth c A nL Q k9 n9 pc lv (.ref a :: st) X P := by
  intro H locs ls hP hD hS hv
  exact va_get C.1 C.2.1 C.2.2.2.2.1 hin C.2.2.2.1 C.K hP i (xp hx) hcl k hk (C.w hlink) (fun x9 h9 => by rw [← href]; exact h9) hv9 hd (k9k H locs ls hP hD hS hv)
theorem jc_putF (C : CxC G p s m args meth c A cc nL own Ts) (hname : meth.name = "<init>") {i ci index k a : Nat} {D9 : String} {T : u_T} {N : Nat} {fs : List Value} {v : Value} {ty : FieldType} (hd : decode cc pc = .ok (.putfield index, 3)) (hx : X[i]? = some (a, .inr (ci, fs))) (hcl : vwCl[ci]? = some (D9, T, N)) (hin : ∀ w ∈ u_ws D9 T N, w ∈ Ts) (ty0 : Nat → FieldType) (hty : ∀ k, k < N → parseFieldDescriptor (T k).2.2.1 = some (ty0 k)) (hnm : ∀ a, a < N → ∀ b, b < N → a ≠ b → (T a).2.1 ≠ (T b).2.1) (hk : k < N) (hlink : Cond.fieldLink own index own (T k).2.1 (T k).2.2.1 ∈ Ts) (hdecl : (T k).1 = own) (hfin : (T k).2.2.2 = true) (hd9 : parseFieldDescriptor (T k).2.2.1 = some ty) (hn : narrow ty v = v) (hfit : fits ty v = true) (hl : k < fs.length)
    (k9k : JC G p l e R s m args below meth c A nL Q k9 n9 (pc + 3) lv st (X.set i (a, .inr (ci, fs.set k v))) P) : JC G p l e R s m args below meth c A nL Q k9 n9 pc lv (v :: .ref a :: st) X P := by
  intro H locs ls hP hD hS hv
  refine va_putF C.1 C.2.1 C.2.2.2.2.1 hin ty0 hty hnm C.2.2.2.1 C.K hP hD hS i (xp hx) hcl k hk (C.w hlink) (fun x9 h9 => by rw [← hdecl] at *; exact h9) hfin hname hdecl hd9 hn hfit hl hd (fun H1 locs1 hP1 hD1 hS1 => ?_)
  rw [List.set_append_left i _ (List.getElem?_eq_some_iff.mp hx).1] at hP1 hD1
  exact k9k H1 locs1 ls hP1 hD1 hS1 hv
theorem jc_iastN (C : CxC G p s m args meth c A cc nL own Ts) {i n a j : Nat} {f : Nat → Int32} {v : Int32} (hd : decode cc pc = .ok (.iastore, 1)) (hx : X[i]? = some (a, .inl (G.2.1 0, n, .inl f))) (hj : j < n) (hn : n < 2 ^ 31)
    (k : JC G p l e R s m args below meth c A nL Q k9 n9 (pc + 1) lv st (X.set i (a, .inl (G.2.1 0, n, .inl (upd f j v)))) P) : JC G p l e R s m args below meth c A nL Q k9 n9 pc lv (.int v :: .int (nI j) :: .ref a :: st) X P := by
  intro H locs ls hP hD hS hv
  refine va_iast C.1 C.2.1 C.K hP hD hS i 0 (xp hx) rfl (vp_in_nI hj hn) hd (fun H1 locs1 hP1 hD1 hS1 => ?_)
  rw [nI_clamp (Nat.lt_trans hj hn), List.set_append_left i _ (List.getElem?_eq_some_iff.mp hx).1] at hP1 hD1
  exact k H1 locs1 ls hP1 hD1 hS1 hv
theorem jc_aastN (C : CxC G p s m args meth c A cc nL own Ts) {i n a j q : Nat} {f : Nat → Option Nat} {vs : List Value} (hd : decode cc pc = .ok (.aastore, 1)) (hx : X[i]? = some (a, .inl (G.2.1 3, n, .inr (.inr (.inr (.inr f)))))) (hq : (q, (.inr (0, vs) : va_E)) ∈ X ++ P) (hj : j < n) (hn : n < 2 ^ 31)
    (k : JC G p l e R s m args below meth c A nL Q k9 n9 (pc + 1) lv st (X.set i (a, .inl (G.2.1 3, n, .inr (.inr (.inr (.inr (va_up f j (some q)))))))) P) : JC G p l e R s m args below meth c A nL Q k9 n9 pc lv (.ref q :: .int (nI j) :: .ref a :: st) X P := by
  intro H locs ls hP hD hS hv
  obtain ⟨qk, hqk⟩ := List.getElem?_of_mem hq
  refine va_astq C.1 C.2.1 C.K hP hD hS i 3 qk 0 (r := (RX0, TX0, 10)) (xp hx) rfl hqk rfl (vp_in_nI hj hn) hd (fun H1 locs1 hP1 hD1 hS1 => ?_)
  rw [nI_clamp (Nat.lt_trans hj hn), List.set_append_left i _ (List.getElem?_eq_some_iff.mp hx).1] at hP1 hD1
  exact k H1 locs1 ls hP1 hD1 hS1 hv
theorem jc_newa (C : CxC G p s m args meth c A cc nL own Ts) {atype : ArrayType} {ty : FieldType} {t n : Nat} {a0 : vp_A} (hd : decode cc pc = .ok (.newarray atype, 2)) (hty : newarray.typeOf atype = ty) (harr : Cond.arrayClass (newarray.typeOf atype) ∈ Ts) (ht : (tysG G)[t]? = some (G.2.1 t, ty)) (ha : ∀ cA : ClassId, vp_cell cA a0 = arrV cA n (fun _ => defaultValue ty)) (hn : n < 2 ^ 31) (hbytes : n * componentBytes ty ≤ 536870912) (hc : k9 + 1 ≤ R.cells ∧ n9 + n ≤ R.slots)
    (k : ∀ q : Nat, JC G p l e R s m args below meth c A nL Q (k9 + 1) (n9 + n) (pc + 2) lv (.ref q :: st) X (P ++ [(q, .inl (G.2.1 t, a0))])) : JC G p l e R s m args below meth c A nL Q k9 n9 pc lv (.int (nI n) :: st) X P := by
  intro H locs ls hP hD hS hv
  refine va_newa (atype := atype) C.1 C.2.1 (C.w harr) hty C.K hP hD hS C.Aq ha (nI_pos hn) (nI_clamp hn) hbytes hc.1 hc.2 hd (fun q cA H1 hK hP1 hD1 hS1 => ?_)
  have h2 := (hK.2 t _ (xp ht)).2
  have h1 := (hK.2 4 (cA, ty) rfl).2
  obtain rfl : cA = G.2.1 t := va_RA_uniq h1 h2
  rw [List.append_assoc] at hP1 hD1
  exact k q H1 locs ls hP1 hD1 hS1 hv
theorem jc_newq (C : CxC G p s m args meth c A cc nL own Ts) {index n : Nat} (hd : decode cc pc = .ok (.anewarray index, 3)) (hl : Cond.classLink own index "PotLabels$Bureau" ∈ Ts) (hn : n < 2 ^ 31) (hbytes : n * 4 ≤ 536870912) (hc : k9 + 1 ≤ R.cells ∧ n9 + n ≤ R.slots)
    (k : ∀ q : Nat, JC G p l e R s m args below meth c A nL Q (k9 + 1) (n9 + n) (pc + 3) lv (.ref q :: st) X (P ++ [(q, .inl (G.2.1 3, n, .inr (.inr (.inr (.inr (fun _ => none))))))])) : JC G p l e R s m args below meth c A nL Q k9 n9 pc lv (.int (nI n) :: st) X P := by
  intro H locs ls hP hD hS hv
  refine va_newq C.1 C.2.1 C.2.2.2.1 (C.w hl) C.2.2.2.2.2.2.1.2.1 C.K hP hD hS C.Aq (nI_pos hn) (nI_clamp hn) hbytes hc.1 hc.2 hd (fun q cA H1 hK hP1 hD1 hS1 => ?_)
  have h2 := (hK.2 3 _ rfl).2
  have h1 := (hK.2 4 (cA, .object "PotLabels$Bureau") rfl).2
  obtain rfl : cA = G.2.1 3 := va_RA_uniq h1 h2
  rw [List.append_assoc] at hP1 hD1
  exact k q H1 locs ls hP1 hD1 hS1 hv
theorem jc_new (C : CxC G p s m args meth c A cc nL own Ts) {index ci N : Nat} {D9 : String} {T : u_T} {fs : List Value} (hd : decode cc pc = .ok (.new index, 3)) (hin : ∀ w ∈ u_ws D9 T N, w ∈ Ts) (ty0 : Nat → FieldType) (hty : ∀ k, k < N → parseFieldDescriptor (T k).2.2.1 = some (ty0 k)) (hl : Cond.classLink own index D9 ∈ Ts) (hi : Cond.instantiable D9 N ∈ Ts) (hini : Cond.initialized D9 ∈ Ts) (hcl : vwCl[ci]? = some (D9, T, N)) (hfs : ∀ j, j < N → defaultValue (ty0 j) = vp_V fs j) (hc : k9 + 1 ≤ R.cells ∧ n9 + N ≤ R.slots)
    (k : ∀ q : Nat, JC G p l e R s m args below meth c A nL Q (k9 + 1) (n9 + N) (pc + 3) lv (.ref q :: st) X (P ++ [(q, .inr (ci, fs))])) : JC G p l e R s m args below meth c A nL Q k9 n9 pc lv st X P := by
  intro H locs ls hP hD hS hv
  refine va_new C.1 C.2.1 C.2.2.2.2.1 hin ty0 hty C.2.2.2.1 (C.w hl) (C.w hi) (C.w hini) C.K hP hD hS C.Aq hcl hfs hc.1 hc.2 hd (fun q H1 hP1 hD1 hS1 => ?_)
  rw [List.append_assoc] at hP1 hD1
  exact k q H1 locs ls hP1 hD1 hS1 hv
theorem jc_objInit (C : CxC G p s m args meth c A cc nL own Ts) {index a : Nat} (hd : decode cc pc = .ok (.invokespecial index, 3)) (h1 : Cond.methodLink own index objectInit ∈ Ts) (h2 : Cond.instanceMethod objectInit ∈ Ts) (h3 : Cond.code objectInit ⟨#[0xb1]⟩ 1 none ∈ Ts) (hf : 1 ≤ R.frames) (hl : (st.map fun v => v.category).sum + 12 ≤ R.locals)
    (k : JC G p l e R s m args below meth c A nL Q k9 n9 (pc + 3) lv st X P) : JC G p l e R s m args below meth c A nL Q k9 n9 pc lv (.ref a :: st) X P := by
  intro H locs ls hP hD hS hv
  exact W.objInit C.1 C.2.1 C.2.2.2.1 (C.w h1) (C.w h2) (C.w h3) rfl (hv.1.trans C.2.2.1.symm) rfl hd hf (by show 2 * 0 + _ + 12 ≤ _; omega) (k H locs ls hP hD hS hv)
theorem jc_return (C : CxC G p s m args meth c A cc nL own Ts) {Pw : Option Value → va_W → Prop} (hr : meth.sig.returnType = none) (hd : decode cc pc = .ok (.return_, 1)) (hq : Pw none (X ++ P)) : JC G p l e R s m args below meth c A nL (MQ below (QC G Pw A) args s k9 n9 A) k9 n9 pc lv [] X P := by
  intro H locs ls hP hD hS hv
  exact W.vret C.1 C.2.1 hr (fun t ht hW => ⟨⟨none, _, rfl, hq, by rw [ht]; exact hP, hD⟩, hS.F ht⟩) hS.2.2 hd C.2.2.2.2.2.1
theorem jc_ireturn (C : CxC G p s m args meth c A cc nL own Ts) {v : Int32} {Pw : Option Value → va_W → Prop} (hr : meth.sig.returnType = some .int) (hd : decode cc pc = .ok (.ireturn, 1)) (hq : Pw (some (.int v)) (X ++ P)) : JC G p l e R s m args below meth c A nL (MQ below (QC G Pw A) args s k9 n9 A) k9 n9 pc lv [.int v] X P := by
  intro H locs ls hP hD hS hv
  exact W.iret C.1 C.2.1 hr (fun t ht hW => ⟨⟨_, _, rfl, hq, by rw [ht]; exact hP, hD⟩, hS.F ht⟩) hS.2.2 hd C.2.2.2.2.2.1
/-- behind a run of a callee over the world's last cells -/
theorem jc_run (C : CxC G p s m args meth c A cc nL own Ts) {rest st0 : List Value} {a9 : Array Value} {mc ms : Nat} {P0 w0 : va_W} {Pw : Option Value → va_W → Prop}
    (hr : ∀ (H : Heap) (locs : List Loc) (ls : Array Slot), va_P G.1 vwCl w0 H → va_D (fun _ => True) w0 → va_S A s.heap H locs → lv_has ls nL lv → va_Run p l e R s m args below meth c H locs k9 n9 mc ms (F0 m pc ls st0) rest (QC G Pw (va_A w0 H.size) a9) (va_A w0 H.size))
    (k : ∀ (v : Option Value) (w1 : va_W), Pw v w1 → JC G p l e R s m args below meth c A nL Q (k9 + mc) (n9 + ms) (pc + 3) lv (v.toList ++ rest) X (P0 ++ w1)) : JC G p l e R s m args below meth c A nL Q k9 n9 pc lv st0 X (P0 ++ w0) := by
  intro H locs ls hP hD hS hv T hT X9
  rw [← List.append_assoc] at hP hD
  obtain ⟨v, s9, t, T', L, h0, X', hL, e1, e2, ⟨⟨v', w1, hv', hq, hP1, hD1⟩, hz, hk⟩, st9⟩ := hr H locs ls (sufP hP) ((sufD hD).weaken (fun _ _ _ _ => trivial)) hS hv T hT X9
  cases hv'
  rw [h0] at hz hk
  have hA : ∀ q, va_A w0 H.size q → A q := by
    rintro q (⟨k2, e2, h2⟩ | h2)
    · exact (sufD hD).2 k2 _ h2
    · exact C.Aq q (Nat.le_trans hS.1 h2)
  obtain ⟨hP2, hD2⟩ := jc_join hP hD hk hA hP1 hD1
  rw [List.append_assoc] at hP2 hD2
  obtain ⟨t2, a1, b1⟩ := k v w1 hq T'.heap (locs ++ L) ls (by rw [e1]; exact hP2) hD2
    ⟨Nat.le_trans hS.1 (by rw [e1]; exact hz), fun q h1 h2 => by rw [e1, hk q (Nat.lt_of_lt_of_le h1 hS.1) (fun z => h2 (hA q z))]; exact hS.2.1 q h1 h2, fun q hq => by
      rcases List.mem_append.mp hq with h | h
      · exact hS.2.2 q h
      · exact hA _ (hL q h)⟩ hv T' rfl X'
  exact ⟨t2, st9 t2 a1, b1⟩
theorem jc_callI (C : CxC G p s m args meth c A cc nL own Ts) {index maxL mc ms q : Nat} {rm : Room} {P0 w0 : va_W} {Pw : Option Value → va_W → Prop} {rest : List Value} {y : MethodName} {ws' ws2 : List Cond} {bytes : ByteArray}
    (hC : Cz l G y ws' rm mc ms [.ref q] w0 Pw) (hd : decode cc pc = .ok (.invokespecial index, 3)) (hG : GoodIn Ts ws') (hw : ws' = Cond.code y bytes maxL none :: ws2) (h1 : Cond.initialized y.cls ∈ Ts) (h2 : Cond.methodLink own index y ∈ Ts) (h3 : Cond.instanceMethod y ∈ Ts) (hy1 : y.name = "<init>")
    (hy : y.cls ≠ "java/lang/invoke/MethodHandle" ∧ y.cls ≠ "java/lang/invoke/VarHandle" ∧ (parseMethodDescriptor y.desc).map (fun d => d.parameters.length) = some 0) (hcat : (rest.map fun v => v.category).sum ≤ 8) (hR : rm.frames + 1 ≤ R.frames ∧ 8 + (maxL + 11) + rm.locals ≤ R.locals) (hrc : rm.cells = mc) (hrs : rm.slots = ms) (hkn : k9 + mc ≤ R.cells ∧ n9 + ms ≤ R.slots)
    (k : ∀ (v : Option Value) (w1 : va_W), Pw v w1 → JC G p l e R s m args below meth c A nL Q (k9 + mc) (n9 + ms) (pc + 3) lv (v.toList ++ rest) X (P0 ++ w1)) : JC G p l e R s m args below meth c A nL Q k9 n9 pc lv (.ref q :: rest) X (P0 ++ w0) := by
  refine jc_run C (rest := rest) (a9 := [.ref q].toArray) (fun H locs ls hP hD hS hv => ?_) k
  exact va_runI (As := []) (rest := rest) ⟨C.1, C.2.1, C.2.2.1, C.2.2.2.1, C.2.2.2.2.1⟩ (hC H.size) (cwI 0 C.2.2.2.2.1 hG hw hrc hrs (C.w h1) (C.w h2) (C.w h3) hy1 hy hR) ⟨WC.blind, fun U hU hW => ⟨rfl, by rw [hU], by rw [hU]; exact hP, C.2.2.2.2.2.2.1.warm hW, hD⟩⟩ rfl rfl hv.1 rfl (lv_room hcat) hd hkn
theorem jc_callIN (C : CxC G p s m args meth c A cc nL own Ts) {index maxL mc ms q : Nat} {rm : Room} {P0 w0 : va_W} {Pw : Option Value → va_W → Prop} {rest : List Value} {y : MethodName} {ws' ws2 : List Cond} {bytes : ByteArray} {host : String}
    (hC : Cz l G y ws' rm mc ms [.ref q] w0 Pw) (hd : decode cc pc = .ok (.invokespecial index, 3)) (hG : GoodIn Ts ws') (hw : ws' = Cond.code y bytes maxL none :: ws2) (h1 : Cond.initialized y.cls ∈ Ts) (h2 : Cond.methodLinkNest own index y host ∈ nestM) (h3 : Cond.instanceMethod y ∈ Ts) (hy1 : y.name = "<init>")
    (hy : y.cls ≠ "java/lang/invoke/MethodHandle" ∧ y.cls ≠ "java/lang/invoke/VarHandle" ∧ (parseMethodDescriptor y.desc).map (fun d => d.parameters.length) = some 0) (hcat : (rest.map fun v => v.category).sum ≤ 8) (hR : rm.frames + 1 ≤ R.frames ∧ 8 + (maxL + 11) + rm.locals ≤ R.locals) (hrc : rm.cells = mc) (hrs : rm.slots = ms) (hkn : k9 + mc ≤ R.cells ∧ n9 + ms ≤ R.slots)
    (k : ∀ (v : Option Value) (w1 : va_W), Pw v w1 → JC G p l e R s m args below meth c A nL Q (k9 + mc) (n9 + ms) (pc + 3) lv (v.toList ++ rest) X (P0 ++ w1)) : JC G p l e R s m args below meth c A nL Q k9 n9 pc lv (.ref q :: rest) X (P0 ++ w0) := by
  refine jc_run C (rest := rest) (a9 := [.ref q].toArray) (fun H locs ls hP hD hS hv => ?_) k
  exact va_runIN (As := []) (rest := rest) ⟨C.1, C.2.1, C.2.2.1, C.2.2.2.1, C.2.2.2.2.1⟩ (hC H.size) ⟨va_cnB 0 C.2.2.2.2.1 hG hw hrc hrs (C.2.2.2.2.2.2.1.2.2 _ h2) (C.w h1) hy hR, hy1, C.w h3⟩ ⟨WC.blind, fun U hU hW => ⟨rfl, by rw [hU], by rw [hU]; exact hP, C.2.2.2.2.2.2.1.warm hW, hD⟩⟩ rfl rfl hv.1 rfl (lv_room hcat) hd hkn
theorem jc_callS (C : CxC G p s m args meth c A cc nL own Ts) {index maxL mc ms n : Nat} {rm : Room} {Pw : Option Value → va_W → Prop} {As rest st0 : List Value} {y : MethodName} {ws' ws2 : List Cond} {bytes : ByteArray} {ret : Option FieldType}
    (hC : Cz l G y ws' rm mc ms As [] Pw) (hd : decode cc pc = .ok (.invokestatic index, 3)) (hG : GoodIn Ts (va_wsS own index y ws')) (hw : ws' = Cond.code y bytes maxL ret :: ws2)
    (hy : y.cls ≠ "java/lang/invoke/MethodHandle" ∧ y.cls ≠ "java/lang/invoke/VarHandle" ∧ (parseMethodDescriptor y.desc).map (fun d => d.parameters.length) = some n) (hn : As.length = n) (hst : st0 = As.reverse ++ rest) (hcat : (rest.map fun v => v.category).sum ≤ 8) (hR : rm.frames + 1 ≤ R.frames ∧ 8 + (maxL + 11) + rm.locals ≤ R.locals) (hrc : rm.cells = mc) (hrs : rm.slots = ms) (hkn : k9 + mc ≤ R.cells ∧ n9 + ms ≤ R.slots)
    (k : ∀ (v : Option Value) (w1 : va_W), Pw v w1 → JC G p l e R s m args below meth c A nL Q (k9 + mc) (n9 + ms) (pc + 3) lv (v.toList ++ rest) X (P ++ w1)) : JC G p l e R s m args below meth c A nL Q k9 n9 pc lv st0 X P := by
  refine jc_to (X2 := X) (P2 := P ++ []) (by rw [List.append_nil]) (jc_run C (rest := rest) (a9 := As.toArray) (fun H locs ls hP hD hS hv => ?_) k)
  exact va_runS (As := As) (rest := rest) ⟨C.1, C.2.1, C.2.2.1, C.2.2.2.1, C.2.2.2.2.1⟩ (hC H.size) (va_cwS n C.2.2.2.2.1 hG hw hrc hrs hy hR) ⟨WC.blind, fun U hU hW => ⟨rfl, by rw [hU], by rw [hU]; exact hP, C.2.2.2.2.2.2.1.warm hW, hD⟩⟩ rfl hn hv.1 hst (lv_room hcat) hd hkn
end JCr
