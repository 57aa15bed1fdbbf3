section
-- ===== PART A: goes FIRST, ahead of the names: the tables' words, and 'selects' of the private methods out of them =====
/-- a private method of a class that the tables say can be made, by its rows of tables_1 -/
def lw_okq (q : MethodName × Nat) : Prop := (q.1.cls ≠ "java/lang/invoke/MethodHandle" ∧ q.1.cls ≠ "java/lang/invoke/VarHandle") ∧ Cond.instantiable q.1.cls q.2 ∈ tables_1 ∧ Cond.privateMethod q.1 ∈ tables_1 ∧ Cond.instanceMethod q.1 ∈ tables_1
theorem lw_p0 : lw_okq (⟨"java/lang/Throwable", "fillInStackTrace", "(I)Ljava/lang/Throwable;"⟩, 6) := ⟨⟨by decide +kernel, by decide +kernel⟩, List.mem_of_getElem? (i := 199) (by decide +kernel), List.mem_of_getElem? (i := 197) (by decide +kernel), List.mem_of_getElem? (i := 198) (by decide +kernel)⟩
theorem lw_p1 : lw_okq (⟨"PotLabels$Bureau", "tellersOfPair", "(II)I"⟩, 10) := ⟨⟨by decide +kernel, by decide +kernel⟩, List.mem_of_getElem? (i := 25) (by decide +kernel), List.mem_of_getElem? (i := 267) (by decide +kernel), List.mem_of_getElem? (i := 268) (by decide +kernel)⟩
theorem lw_p2 : lw_okq (⟨"PotLabels$Bureau", "tellsColours", "(IIII)Z"⟩, 10) := ⟨⟨by decide +kernel, by decide +kernel⟩, List.mem_of_getElem? (i := 25) (by decide +kernel), List.mem_of_getElem? (i := 271) (by decide +kernel), List.mem_of_getElem? (i := 272) (by decide +kernel)⟩
theorem lw_p3 : lw_okq (⟨"PotLabels$Memory", "dropOldest", "()V"⟩, 4) := ⟨⟨by decide +kernel, by decide +kernel⟩, List.mem_of_getElem? (i := 74) (by decide +kernel), List.mem_of_getElem? (i := 367) (by decide +kernel), List.mem_of_getElem? (i := 368) (by decide +kernel)⟩
theorem lw_p4 : lw_okq (⟨"PotLabels", "needChart", "(I)V"⟩, 4) := ⟨⟨by decide +kernel, by decide +kernel⟩, List.mem_of_getElem? (i := 17) (by decide +kernel), List.mem_of_getElem? (i := 421) (by decide +kernel), List.mem_of_getElem? (i := 422) (by decide +kernel)⟩
theorem lw_p5 : lw_okq (⟨"PotLabels$Labelling", "needOf", "(II)I"⟩, 4) := ⟨⟨by decide +kernel, by decide +kernel⟩, List.mem_of_getElem? (i := 112) (by decide +kernel), List.mem_of_getElem? (i := 602) (by decide +kernel), List.mem_of_getElem? (i := 603) (by decide +kernel)⟩
def lw_privs_1 : List (MethodName × Nat) := [(⟨"java/lang/Throwable", "fillInStackTrace", "(I)Ljava/lang/Throwable;"⟩, 6), (⟨"PotLabels$Bureau", "tellersOfPair", "(II)I"⟩, 10), (⟨"PotLabels$Bureau", "tellsColours", "(IIII)Z"⟩, 10), (⟨"PotLabels$Memory", "dropOldest", "()V"⟩, 4), (⟨"PotLabels", "needChart", "(I)V"⟩, 4), (⟨"PotLabels$Labelling", "needOf", "(II)I"⟩, 4)]
theorem lw_r1 : ∀ q ∈ lw_privs_1, lw_okq q := List.forall_mem_cons.mpr ⟨lw_p0, List.forall_mem_cons.mpr ⟨lw_p1, List.forall_mem_cons.mpr ⟨lw_p2, List.forall_mem_cons.mpr ⟨lw_p3, List.forall_mem_cons.mpr ⟨lw_p4, List.forall_mem_cons.mpr ⟨lw_p5, fun _ h => absurd h List.not_mem_nil⟩⟩⟩⟩⟩⟩
def lw_privs : List (MethodName × Nat) := lw_privs_1
def lw_tbl : List Cond := k2_sels lw_privs ++ tables_1
theorem lw_privs_ok : ∀ q ∈ lw_privs, lw_okq q := lw_r1
/-- the streams that the claim lets the run draw from -/
abbrev lw_cs : List Choice := [Jvm.Choice.named "NaN.bits"]
theorem lw_bits : nanBits ∈ lw_cs := by first | decide | exact List.mem_cons_self | simp [lw_cs, nanBits]
-- ===== end of PART A; then your names; then what follows =====
/-! ===== BEGIN words of one list among another's, by their places ===== -/
theorem goodIn_r {big : List Cond} (ws : List Cond) (ps : List Nat) (hp : ws = ps.filterMap (fun i => big[i]?)) (h : ws.all goodWord = true) : GoodIn big ws := by
  intro w hw
  have h1 := List.all_eq_true.mp h w hw
  rw [hp] at hw
  obtain ⟨i, -, hi⟩ := List.mem_filterMap.mp hw
  have hm : w ∈ big := by first | exact List.mem_of_getElem? hi | exact List.getElem?_mem hi
  exact ⟨hm, good_of_word h1⟩
theorem goodIn_app {big a b : List Cond} (ha : GoodIn big a) (hb : GoodIn big b) : GoodIn big (a ++ b) := fun w h => (List.mem_append.mp h).elim (ha w) (hb w)
theorem goodIn_ca {big a b : List Cond} {c : Cond} (ha : GoodIn big (c :: a)) (hb : GoodIn big b) : GoodIn big (c :: (a ++ b)) := fun w h => (List.mem_cons.mp h).elim (fun e => ha w (List.mem_cons.mpr (Or.inl e))) (fun h => (List.mem_append.mp h).elim (fun h => ha w (List.mem_cons.mpr (Or.inr h))) (hb w))
theorem goodIn_sub {big ws : List Cond} (hm : ∀ w ∈ ws, w ∈ big) (h : ws.all goodWord = true) : GoodIn big ws := fun w hw => ⟨hm w hw, good_of_word (List.all_eq_true.mp h w hw)⟩
/-! ===== END ===== -/

/-! ===== BEGIN exceptions that leave a method, and their catching by the caller (launches without stack traces) ===== -/
section VXA
/-! The laws vx_back, vx_callV, vx_callS, vx_callSW, vx_throw0, vx_throwS follow proofs of the library, with one case more: JvmDerived/Free/Laws.lean (Back.of_free), Shelf42/LK1.lean (callV, callS), Shelf/KitTraced.lean (throwNew0V, throwNewS). -/
/-- where a method has thrown q: the class by its name, the cell, what was written, the world -/
def vx_T (XC : String → State → State → Prop) (st : State) (q : Addr) (t : State) (mc ms : Nat) (free : Addr → Prop) : Prop :=
  ∃ (E : String) (ce : Cell) (L : List Loc), XC E st t ∧ t.heap[q]? = some ce ∧ ce.vm = .none ∧ st.vm.findClass E = some ce.cls ∧ st.WarmedH t.vm ∧ st.sameButNew ({ t with vm := st.vm } : State) L mc ms ∧ ∀ z ∈ L, free z.base
def vx_Q (Qc : Array Value → State → Outcome → State → Prop) (XC : String → State → State → Prop) (mc ms : Nat) (free : Addr → Prop) : Array Value → State → Outcome → State → Prop := fun a st o t =>
  (Qc a st o t ∧ ∃ L, FrameEnd st o t L mc ms ∧ ∀ q ∈ L, free q.base) ∨ ∃ q, o = .threw q ∧ vx_T XC st q t mc ms free
/-- a callee that returns or throws -/
def vx_Met (l : Launch) (y : MethodName) (ws : List Cond) (rm : Room) (Pc : Array Value → State → Prop) (Qc : Array Value → State → Outcome → State → Prop) (XC : String → State → State → Prop) (mc ms : Nat) (free : Addr → Prop) : Prop :=
  MetFree l y (headSpec ws rm) Pc (fun _ _ _ _ _ => True) (vx_Q Qc XC mc ms free)
def vx_Post (XC : String → State → State → Prop) (mc ms : Nat) (free : Addr → Prop) : Pt → Array Value → Addr → Pt → Prop := fun A a q B =>
  ∃ (g : JFrame) (mk : MethodId) (t : State) (L : List Loc) (E : String) (ce : Cell), B.U.heap = t.heap ∧ B.U.vm = t.vm ∧ XC E (A.U.calling g mk a) t ∧ t.heap[q]? = some ce ∧ ce.vm = .none ∧ A.U.vm.findClass E = some ce.cls ∧ B.locs = A.locs ++ L ∧ (∀ z ∈ L, free z.base) ∧ B.cells = A.cells + mc ∧ B.slots = A.slots + ms
def vx_Back (l : Launch) (R : Room) (p : Program) (e : Env) (below : List Frame) (s : State) (sargs : Array Value) (y : MethodName) (len W9 : Nat)
    (Pre : Pt → Array Value → Prop) (Post : Pt → Array Value → Option Value → Pt → Prop) (PostX : Pt → Array Value → Addr → Pt → Prop) : Prop :=
  ∀ (m : MethodId) (meth : Method) (c : Code) (A : Pt) (g : JFrame) (ig : Instr) (mk : MethodId) (a : Array Value),
    Stand p l e R s m sargs below meth c A.U A.locs A.cells A.slots → g.method = m → g.locals.size = c.maxLocals → decode c.code g.pc = .ok (ig, len) →
    2 * g.monitorRoom + (g.stack.map fun v => v.category).sum ≤ W9 → A.U.methodNamed? y = some mk → Pre A a →
    (∃ (v : Option Value) (B : Pt), Stand p l e R s m sargs below meth c B.U B.locs B.cells B.slots ∧ Post A a v B ∧
      Steps p.tables e below (doInvoke e (A.U.setTop g) [] mk a).1 (B.U.setTop { g with pc := g.pc + len, stack := v.toList ++ g.stack })) ∨
    (∃ (q : Addr) (B : Pt), Stand p l e R s m sargs below meth c B.U B.locs B.cells B.slots ∧ PostX A a q B ∧
      Steps p.tables e below (doInvoke e (A.U.setTop g) [] mk a).1 ((B.U.setTop g).pushFrame (.throwing q)))
section Payer
variable {l : Launch} {R : Room} {p : Program} {e : Env} {below : List Frame} {s : State} {sargs : Array Value} {y : MethodName} {len W9 : Nat}
theorem vx_back {ws : List Cond} {rm : Room} {Pc : Array Value → State → Prop} {Qc : Array Value → State → Outcome → State → Prop} {XC : String → State → State → Prop} {mc ms : Nat} {free : Addr → Prop} {bytes : ByteArray} {maxL : Nat} {ret : Option FieldType}
    (hM : vx_Met l y ws rm Pc Qc XC mc ms free) (hblind : FrameBlind Pc) (hrc : rm.cells = mc) (hrs : rm.slots = ms)
    (hframes : rm.frames + 1 ≤ R.frames) (hlocals : W9 + (maxL + 11) + rm.locals ≤ R.locals)
    (hws : ∀ w ∈ ws, ∀ a' U, s.WarmedH U.vm → w.before a' U = true) (hcode : Cond.code y bytes maxL ret ∈ ws) (hinit : ∀ a' U, s.WarmedH U.vm → (Cond.initialized y.cls).before a' U = true) :
    vx_Back l R p e below s sargs y len W9 (PreOf R mc ms Pc) (PostOf Qc mc ms free) (vx_Post XC mc ms free) := by
  intro m meth c A g ig mk a X hg hsize hdg hW hn hp
  have h1 : (headSpec ws rm).pre.before a A.U = true := atoms_intro fun w hw => hws w hw _ _ X.warmed
  have h2 : (Cond.code y bytes maxL ret).before a A.U = true := hws _ hcode _ _ X.warmed
  have h3 : (Cond.initialized y.cls).before a A.U = true := hinit _ _ X.warmed
  have h4 : A.cells + (headSpec ws rm).room.cells ≤ R.cells := by rw [show (headSpec ws rm).room.cells = mc from hrc]; exact hp.1
  have h5 : A.slots + (headSpec ws rm).room.slots ≤ R.slots := by rw [show (headSpec ws rm).room.slots = ms from hrs]; exact hp.2.1
  have hPc : Pc a (A.U.calling g mk a) := hblind _ _ _ _ hp.2.2
  obtain ⟨U, Ls, c0, s0⟩ := A
  dsimp only [Pt.U, Pt.locs, Pt.cells, Pt.slots] at h1 h2 h3 h4 h5 X hn hPc ⊢
  obtain ⟨methY, cY, hmY, hcY, -, hlY, -, -, -, -⟩ := Cond.code_spec hn h2
  obtain ⟨kY, hkY, -⟩ := className_of_methodNamed hn
  have hinitY : kY.init = .initialized := Cond.initialized_spec (findClass_of_methodNamed hn) hkY h3
  have h : At U g.method c below := by rw [hg]; exact X.here
  have hlocals9 : W9 + (maxL + 11) + (headSpec ws rm).room.locals ≤ R.locals := hlocals
  have happ : (headSpec ws rm).appliesLoose y e.platform (U.calling g mk a) = true :=
    Spec.appliesLoose_calling (g := g) h hdg hn hkY hinitY
      (X.room_calling (g := g) (R' := (headSpec ws rm).room) hsize hmY hcY hframes (by rw [hlY]; omega) h4 h5) h1
  obtain ⟨mid, hmid⟩ := h.above
  have hfr : (U.setTop g).frames = (.java g :: mid) ++ below := by rw [State.frames_setTop' g h.top, hmid]; rfl
  obtain ⟨o, s₂, hsteps, -, hend, hq⟩ := Steps.callFree hM p X.admits X.cas X.clock (acts := []) hfr happ hPc trivial
  have hq' : vx_Q Qc XC mc ms free a (U.calling g mk a) o s₂ := hq
  rw [State.frames_setTop' g h.top] at hend
  obtain ⟨g₀, hg0⟩ := Option.isSome_iff_exists.mp h.top
  obtain ⟨r, hr⟩ := State.topJava?_eq_some.mp hg0
  have hr' : (({ U with heap := s₂.heap, slotsUsed := s₂.slotsUsed } : State).setVm s₂.vm).frames = .java g₀ :: r := hr
  rcases hq' with ⟨hqc, L, hfe, hL⟩ | ⟨q, rfl, E, ce, L, hx, hce, hcv, hcl, hW₂, hsm, hL⟩
  · obtain ⟨⟨v, rfl⟩, hW₂, e2, q2, q3, q4, q5, q6⟩ := id hfe
    have e3 : s₂ = ({ (U.calling g mk a).setFrames s₂.frames with heap := s₂.heap, slotsUsed := s₂.slotsUsed } : State).setVm s₂.vm := by
      have : s₂ = ({ s₂ with vm := (U.calling g mk a).vm } : State).setVm s₂.vm := rfl
      rw [e2] at this
      exact this
    obtain ⟨c₂, i₂, len₂, hc₂, hd₂, hf₂⟩ := hend
    have hW' : U.WarmedH s₂.vm := hW₂
    have hcc : c₂ = c := by
      have h1 : s₂.code? g.method = U.code? g.method := by
        rw [State.code?_eq, State.code?_eq, hW'.alike.method?]
      exact Option.some.inj (hc₂.symm.trans (h1.trans h.code))
    subst hcc
    have hlen : len₂ = len := by rw [hdg] at hd₂; cases hd₂; rfl
    subst hlen
    have hs₂ : s₂ = (({ U with heap := s₂.heap, slotsUsed := s₂.slotsUsed } : State).setVm s₂.vm).setTop { g with pc := g.pc + len₂, stack := v.toList ++ g.stack } := by
      refine e3.trans ?_
      rw [hf₂, State.calling_eq h.top, State.setFrames_setFrames, State.setTop_of_frames _ hr', hr]
      rfl
    have hsame : U.sameButNew ({ U with heap := s₂.heap, slotsUsed := s₂.slotsUsed } : State) L mc ms := by
      refine ⟨?_, q2, q3, q4, q5, q6⟩
      obtain ⟨t, ht, -⟩ := State.frames_cons hr
      show ({ U with heap := s₂.heap, slotsUsed := s₂.slotsUsed } : State) = { U.setFrames U.frames with heap := s₂.heap, slotsUsed := s₂.slotsUsed }
      rw [State.setFrames_self ht]
    subst hg
    refine Or.inl ⟨v, ⟨(({ U with heap := s₂.heap, slotsUsed := s₂.slotsUsed } : State).setVm s₂.vm), Ls ++ L, c0 + mc, s0 + ms⟩,
      ⟨X.admits, X.cas, X.clock, X.frames, X.room, X.hears, X.method, X.code, (X.here.setHeapUsed s₂.heap s₂.slotsUsed).setVm hW'.alike, X.tail, State.WarmedH.trans X.warmed hW', X.limits, X.bytes, X.same.trans (hsame.setVm s.vm)⟩,
      ⟨g, mk, s₂, L, rfl, rfl, hqc, rfl, hL, rfl, rfl⟩, ?_⟩
    show Steps p.tables e below _ ((({ U with heap := s₂.heap, slotsUsed := s₂.slotsUsed } : State).setVm s₂.vm).setTop { g with pc := g.pc + len₂, stack := v.toList ++ g.stack })
    rw [← hs₂]
    exact hsteps
  · obtain ⟨e2, q2, q3, q4, q5, q6⟩ := id hsm
    have e3 : s₂ = ({ (U.calling g mk a).setFrames s₂.frames with heap := s₂.heap, slotsUsed := s₂.slotsUsed } : State).setVm s₂.vm := by
      have : s₂ = ({ s₂ with vm := (U.calling g mk a).vm } : State).setVm s₂.vm := rfl
      rw [e2] at this
      exact this
    have hf₂ : s₂.frames = .throwing q :: .java g :: U.frames.tail := hend
    have hW' : U.WarmedH s₂.vm := hW₂
    have hs₂ : s₂ = ((({ U with heap := s₂.heap, slotsUsed := s₂.slotsUsed } : State).setVm s₂.vm).setTop g).pushFrame (.throwing q) := by
      refine e3.trans ?_
      rw [hf₂, State.calling_eq h.top, State.setFrames_setFrames, State.pushFrame, State.frames_setTop _ hr', State.setTop_of_frames _ hr', State.setFrames_setFrames, hr]
      rfl
    have hsame : U.sameButNew ({ U with heap := s₂.heap, slotsUsed := s₂.slotsUsed } : State) L mc ms := by
      refine ⟨?_, q2, q3, q4, q5, q6⟩
      obtain ⟨t, ht, -⟩ := State.frames_cons hr
      show ({ U with heap := s₂.heap, slotsUsed := s₂.slotsUsed } : State) = { U.setFrames U.frames with heap := s₂.heap, slotsUsed := s₂.slotsUsed }
      rw [State.setFrames_self ht]
    subst hg
    refine Or.inr ⟨q, ⟨(({ U with heap := s₂.heap, slotsUsed := s₂.slotsUsed } : State).setVm s₂.vm), Ls ++ L, c0 + mc, s0 + ms⟩,
      ⟨X.admits, X.cas, X.clock, X.frames, X.room, X.hears, X.method, X.code, (X.here.setHeapUsed s₂.heap s₂.slotsUsed).setVm hW'.alike, X.tail, State.WarmedH.trans X.warmed hW', X.limits, X.bytes, X.same.trans (hsame.setVm s.vm)⟩,
      ⟨g, mk, s₂, L, E, ce, rfl, rfl, hx, hce, hcv, hcl, rfl, hL, rfl, rfl⟩, ?_⟩
    show Steps p.tables e below _ (((({ U with heap := s₂.heap, slotsUsed := s₂.slotsUsed } : State).setVm s₂.vm).setTop g).pushFrame (.throwing q))
    rw [← hs₂]
    exact hsteps
end Payer
section Calls
variable {p : Program} {l : Launch} {e : Env} {R : Room} {s : State} {m : MethodId} {args : Array Value} {below : List Frame} {meth : Method} {c : Code} {T : State} {locs : List Loc} {cells slots : Nat}
theorem vx_callV (X : Stand p l e R s m args below meth c T locs cells slots) (hexec : p.tables.exec = Jvm.exec) {own C : String} {index : Nat} {y : MethodName} {bytes : ByteArray} {maxL : Nat} {ret : Option FieldType}
    (hown : s.vm.findClass own = some m.cls) (hlink : (Cond.methodLink own index y).before args s = true) (hinst : (Cond.instanceMethod y).before args s = true) (hsel : (Cond.selects C y y).before args s = true)
    (hcode : (Cond.code y bytes maxL ret).before args s = true) (hy : y.cls ≠ "java/lang/invoke/MethodHandle" ∧ y.cls ≠ "java/lang/invoke/VarHandle")
    {W9 : Nat} {Pre : Pt → Array Value → Prop} {Post : Pt → Array Value → Option Value → Pt → Prop} {PostX : Pt → Array Value → Addr → Pt → Prop} (hK : vx_Back l R p e below s args y 3 W9 Pre Post PostX)
    {b : Addr} {cellB : Cell} (hcell : T.heap[b]? = some cellB) (hobj : cellB.vm.isStatics = false) (hcls : s.vm.findClass C = some cellB.cls)
    {g : JFrame} (hg : g.method = m) (hsize : g.locals.size = c.maxLocals) {argsL rest : List Value} (hlen : ∀ sig, parseMethodDescriptor y.desc = some sig → argsL.length = sig.parameters.length)
    (hstack : g.stack = argsL.reverse ++ .ref b :: rest) (hW : 2 * g.monitorRoom + (rest.map fun v => v.category).sum ≤ W9) (hdg : decode c.code g.pc = .ok (.invokevirtual index, 3))
    (hpre : ∀ vm₁, s.WarmedH vm₁ → Pre ⟨T.setVm vm₁, locs, cells, slots⟩ (Value.ref b :: argsL).toArray) :
    (∃ (v : Option Value) (vm₁ : Vm) (B : Pt), s.WarmedH vm₁ ∧ Stand p l e R s m args below meth c B.U B.locs B.cells B.slots ∧ Post ⟨T.setVm vm₁, locs, cells, slots⟩ (Value.ref b :: argsL).toArray v B ∧
      ∀ target, Steps p.tables e below (B.U.setTop { g with pc := g.pc + 3, stack := v.toList ++ rest }) target → Steps p.tables e below (T.setTop g) target) ∨
    (∃ (q : Addr) (vm₁ : Vm) (B : Pt), s.WarmedH vm₁ ∧ Stand p l e R s m args below meth c B.U B.locs B.cells B.slots ∧ PostX ⟨T.setVm vm₁, locs, cells, slots⟩ (Value.ref b :: argsL).toArray q B ∧
      Steps p.tables e below (T.setTop g) ((B.U.setTop { g with stack := rest }).pushFrame (.throwing q))) := by
  obtain ⟨mk, methM, hnamed, hmethM, hstM, habM⟩ := Cond.instanceMethod_spec hinst
  obtain ⟨methM', cM, hmethM', -, -, -, -, -, -, hsigM⟩ := Cond.code_spec hnamed hcode
  cases hmethM.symm.trans hmethM'
  obtain ⟨c2, r2, m2, q1, q2, q3, q4, kP, hkP, hkPi⟩ := Cond.selects_spec hsel
  cases hcls.symm.trans q1
  cases (State.methodFound?_of_named hnamed hy).symm.trans q2
  cases hnamed.symm.trans q3
  have hselP : selectMethod e.platform s.vm cellB.cls mk = .method mk := by rw [Launch.admits_selectMethod X.admits]; exact q4
  obtain ⟨vm₁, X₁, hstep₁⟩ := X.invokevirtual hexec hown hlink hnamed hmethM hstM hkP hkPi hy (a := b) (cell := cellB) hcell
    (fun z h => by rw [h] at hobj; cases hobj) hselP hmethM habM hkP hkPi (g := g) hg (argsL := argsL) (rest := rest) (hlen _ hsigM) hstack hdg
  rcases hK m meth c ⟨T.setVm vm₁, locs, cells, slots⟩ { g with stack := rest } (.invokevirtual index) mk (Value.ref b :: argsL).toArray X₁ hg hsize hdg hW (X₁.named hnamed) (hpre vm₁ X₁.warmed) with ⟨v, B, X', hpost, hsteps⟩ | ⟨q, B, X', hpost, hsteps⟩
  · exact Or.inl ⟨v, vm₁, B, X₁.warmed, X', hpost, fun target h => hstep₁ _ fun acts => by rw [doInvoke_state]; exact hsteps.trans h⟩
  · exact Or.inr ⟨q, vm₁, B, X₁.warmed, X', hpost, hstep₁ _ fun acts => by rw [doInvoke_state]; exact hsteps⟩
theorem vx_callS (X : Stand p l e R s m args below meth c T locs cells slots) (hexec : p.tables.exec = Jvm.exec) {own : String} {index : Nat} {y : MethodName} {bytes : ByteArray} {maxL : Nat} {ret : Option FieldType}
    (hown : s.vm.findClass own = some m.cls) (hlink : (Cond.methodLink own index y).before args s = true) (hstat : (Cond.static y).before args s = true) (hinit : (Cond.initialized y.cls).before args s = true)
    (hcode : (Cond.code y bytes maxL ret).before args s = true) (hy : y.cls ≠ "java/lang/invoke/MethodHandle" ∧ y.cls ≠ "java/lang/invoke/VarHandle")
    {W9 : Nat} {Pre : Pt → Array Value → Prop} {Post : Pt → Array Value → Option Value → Pt → Prop} {PostX : Pt → Array Value → Addr → Pt → Prop} (hK : vx_Back l R p e below s args y 3 W9 Pre Post PostX)
    {g : JFrame} (hg : g.method = m) (hsize : g.locals.size = c.maxLocals) {argsL rest : List Value} (hlen : ∀ sig, parseMethodDescriptor y.desc = some sig → argsL.length = sig.parameters.length)
    (hstack : g.stack = argsL.reverse ++ rest) (hW : 2 * g.monitorRoom + (rest.map fun v => v.category).sum ≤ W9) (hdg : decode c.code g.pc = .ok (.invokestatic index, 3))
    (hpre : ∀ vm₁, s.WarmedH vm₁ → Pre ⟨T.setVm vm₁, locs, cells, slots⟩ argsL.toArray) :
    (∃ (v : Option Value) (vm₁ : Vm) (B : Pt), s.WarmedH vm₁ ∧ Stand p l e R s m args below meth c B.U B.locs B.cells B.slots ∧ Post ⟨T.setVm vm₁, locs, cells, slots⟩ argsL.toArray v B ∧
      ∀ target, Steps p.tables e below (B.U.setTop { g with pc := g.pc + 3, stack := v.toList ++ rest }) target → Steps p.tables e below (T.setTop g) target) ∨
    (∃ (q : Addr) (vm₁ : Vm) (B : Pt), s.WarmedH vm₁ ∧ Stand p l e R s m args below meth c B.U B.locs B.cells B.slots ∧ PostX ⟨T.setVm vm₁, locs, cells, slots⟩ argsL.toArray q B ∧
      Steps p.tables e below (T.setTop g) ((B.U.setTop { g with stack := rest }).pushFrame (.throwing q))) := by
  obtain ⟨mk, hnamed⟩ := Cond.code_named hcode
  obtain ⟨methM, cM, hmethM, -, -, -, -, -, -, hsigM⟩ := Cond.code_spec hnamed hcode
  have hstatic : methM.isStatic = true := Cond.static_spec hnamed hmethM hstat
  obtain ⟨kP, hkP, -⟩ := className_of_methodNamed hnamed
  have hinitP : kP.init = .initialized := Cond.initialized_spec (findClass_of_methodNamed hnamed) hkP hinit
  obtain ⟨vm₁, X₁, hstep₁⟩ := X.invokestatic hexec hown hlink hnamed hmethM hstatic hkP hinitP hy (g := g) hg (argsL := argsL) (rest := rest) (hlen _ hsigM) hstack hdg
  rcases hK m meth c ⟨T.setVm vm₁, locs, cells, slots⟩ { g with stack := rest } (.invokestatic index) mk argsL.toArray X₁ hg hsize hdg hW (X₁.named hnamed) (hpre vm₁ X₁.warmed) with ⟨v, B, X', hpost, hsteps⟩ | ⟨q, B, X', hpost, hsteps⟩
  · exact Or.inl ⟨v, vm₁, B, X₁.warmed, X', hpost, fun target h => hstep₁ _ fun acts => by rw [doInvoke_state]; exact hsteps.trans h⟩
  · exact Or.inr ⟨q, vm₁, B, X₁.warmed, X', hpost, hstep₁ _ fun acts => by rw [doInvoke_state]; exact hsteps⟩
end Calls
theorem vx_cls {s : State} {T : State} {vm₁ : Vm} {E : String} {k : ClassId} (hW : s.WarmedH vm₁) (h : (T.setVm vm₁).vm.findClass E = some k) : s.vm.findClass E = some k := by
  have h1 : vm₁.findClass E = some k := h
  rw [hW.alike.findClass] at h1
  exact h1
/-- the method's frame g, with q thrown over it -/
def vx_W (p : Program) (l : Launch) (e : Env) (R : Room) (s : State) (m : MethodId) (args : Array Value) (below : List Frame) (meth : Method) (c : Code) (H : Heap) (locs : List Loc) (cells slots : Nat) (Q : State → Prop) (g : JFrame) (q : Addr) : Prop :=
  ∀ T : State, T.heap = H → Stand p l e R s m args below meth c T locs cells slots → ∃ t, Steps p.tables e below ((T.setTop g).pushFrame (.throwing q)) t ∧ Q t
def vx_Run (p : Program) (l : Launch) (e : Env) (R : Room) (s : State) (m : MethodId) (args : Array Value) (below : List Frame) (meth : Method) (c : Code) (H : Heap) (locs : List Loc) (cells slots mc ms : Nat) (g : JFrame) (rest : List Value) (Qa : State → Outcome → State → Prop) (XC : String → State → State → Prop) (free : Addr → Prop) : Prop :=
  ∀ T : State, T.heap = H → Stand p l e R s m args below meth c T locs cells slots →
    (∃ (v : Option Value) (st₀ t T' : State) (L : List Loc), st₀.heap = H ∧ Stand p l e R s m args below meth c T' (locs ++ L) (cells + mc) (slots + ms) ∧ (∀ q ∈ L, free q.base) ∧ T'.heap = t.heap ∧ T'.vm = t.vm ∧ Qa st₀ (.returned v) t ∧
      Goes p e below T g T' { g with pc := g.pc + 3, stack := v.toList ++ rest }) ∨
    (∃ (q : Addr) (st₀ t T' : State) (L : List Loc) (E : String) (ce : Cell), st₀.heap = H ∧ Stand p l e R s m args below meth c T' (locs ++ L) (cells + mc) (slots + ms) ∧ (∀ z ∈ L, free z.base) ∧ T'.heap = t.heap ∧ T'.vm = t.vm ∧ XC E st₀ t ∧ t.heap[q]? = some ce ∧ ce.vm = .none ∧ s.vm.findClass E = some ce.cls ∧
      Steps p.tables e below (T.setTop g) ((T'.setTop { g with stack := rest }).pushFrame (.throwing q)))
def vx_X {S : Type} (px : S → Prop) (B : String → S → State → Prop) (A : Nat → Prop) : String → State → State → Prop := fun E st t => ∃ u : S, px u ∧ B E u t ∧ va_F A st t
section Runs
variable {p : Program} {l : Launch} {e : Env} {R : Room} {s : State} {m : MethodId} {args : Array Value} {below : List Frame} {meth : Method} {c : Code} {H : Heap} {locs : List Loc} {cells slots : Nat}
variable {y : MethodName} {bytes cc : ByteArray} {maxL nL mc ms n index : Nat} {ret : Option FieldType} {ws : List Cond} {rm : Room} {Pc : Array Value → State → Prop} {Qc : Array Value → State → Outcome → State → Prop} {XC : String → State → State → Prop} {free : Addr → Prop} {Ts : List Cond} {own C : String} {b : Addr} {As rest : List Value} {g : JFrame}
theorem vx_callBack (cb : CallB R s args own index y bytes maxL ret ws rm mc ms n) (hM : vx_Met l y ws rm Pc Qc XC mc ms free) (hbl : FrameBlind Pc) : vx_Back l R p e below s args y 3 8 (PreOf R mc ms Pc) (PostOf Qc mc ms free) (vx_Post XC mc ms free) := by
  obtain ⟨hrc, hrs, hfr, hlo, hws, hcw, -, hini, -⟩ := cb
  exact vx_back (bytes := bytes) (maxL := maxL) (ret := ret) hM hbl hrc hrs hfr hlo hws hcw (fun a' U hW => word_at hW (Or.inl (by first | rfl | simp [Cond.onTables, Cond.keeps, Cond.steady])) hini)
theorem vx_runV (S : CallFix p m c cc nL s args Ts own) (hM : vx_Met l y ws rm Pc Qc XC mc ms free) (cw : CallW R s args own C index y bytes maxL ret ws rm mc ms n) (hp : PreV s H C b Pc As)
    (hg : g.method = m) (hn : As.length = n) (hsize : g.locals.size = nL) (hstack : g.stack = As.reverse ++ .ref b :: rest) (hW : 2 * g.monitorRoom + (rest.map fun v => v.category).sum ≤ 8) (hdg : decode cc g.pc = .ok (.invokevirtual index, 3)) (hf : cells + mc ≤ R.cells ∧ slots + ms ≤ R.slots) :
    vx_Run p l e R s m args below meth c H locs cells slots mc ms g rest (Qc (Value.ref b :: As).toArray) XC free := by
  have hK : vx_Back l R p e below s args y 3 8 (PreOf R mc ms Pc) (PostOf Qc mc ms free) (vx_Post XC mc ms free) := vx_callBack cw.1 hM hp.1
  obtain ⟨⟨-, -, -, -, -, -, hcode, -, hy, hlen, hl⟩, hin, hse⟩ := cw
  obtain ⟨hx, hb, hml, ho, -⟩ := S
  obtain ⟨-, ⟨cellB, hcB, hoB, hclB⟩, hPc⟩ := hp
  intro T hT X
  rcases vx_callV X hx (C := C) (bytes := bytes) (maxL := maxL) (ret := ret) ho hl hin hse hcode hy hK (by rw [hT]; exact hcB) hoB hclB hg (hsize.trans hml.symm) (argsL := As) (rest := rest) (fun sig h => hn.trans (hlen sig h)) hstack hW (by rw [hb]; exact hdg)
    (fun vm₁ hW₁ => ⟨hf.1, hf.2, hPc (T.setVm vm₁) hT hW₁⟩) with ⟨v, vm₁, ⟨U', l2, c2, s2⟩, hW₁, X', ⟨g', mk, t, L, e1, e2, hq, h1, hL, h2, h3⟩, st⟩ | ⟨q, vm₁, ⟨U', l2, c2, s2⟩, hW₁, X', ⟨g', mk, t, L, E, ce, e1, e2, hq, hce, hcv, hcl, h1, hL, h2, h3⟩, st⟩
  · dsimp only [Pt.U, Pt.locs, Pt.cells, Pt.slots] at X' e1 e2 h1 h2 h3 st
    subst h1; subst h2; subst h3
    exact Or.inl ⟨v, (T.setVm vm₁).calling g' mk (Value.ref b :: As).toArray, t, U', L, hT, X', hL, e1, e2, hq, st⟩
  · dsimp only [Pt.U, Pt.locs, Pt.cells, Pt.slots] at X' e1 e2 h1 h2 h3 st hcl
    subst h1; subst h2; subst h3
    exact Or.inr ⟨q, (T.setVm vm₁).calling g' mk (Value.ref b :: As).toArray, t, U', L, E, ce, hT, X', hL, e1, e2, hq, hce, hcv, vx_cls hW₁ hcl, st⟩
theorem vx_runS (S : CallFix p m c cc nL s args Ts own) (hM : vx_Met l y ws rm Pc Qc XC mc ms free) (cw : CallB R s args own index y bytes maxL ret ws rm mc ms n ∧ (Cond.static y).before args s = true) (hp : PreS s H Pc As)
    (hg : g.method = m) (hn : As.length = n) (hsize : g.locals.size = nL) (hstack : g.stack = As.reverse ++ rest) (hW : 2 * g.monitorRoom + (rest.map fun v => v.category).sum ≤ 8) (hdg : decode cc g.pc = .ok (.invokestatic index, 3)) (hf : cells + mc ≤ R.cells ∧ slots + ms ≤ R.slots) :
    vx_Run p l e R s m args below meth c H locs cells slots mc ms g rest (Qc As.toArray) XC free := by
  have hK : vx_Back l R p e below s args y 3 8 (PreOf R mc ms Pc) (PostOf Qc mc ms free) (vx_Post XC mc ms free) := vx_callBack cw.1 hM hp.1
  obtain ⟨⟨-, -, -, -, -, -, hcode, hini, hy, hlen, hl⟩, hstt⟩ := cw
  obtain ⟨hx, hb, hml, ho, -⟩ := S
  intro T hT X
  rcases vx_callS X hx (bytes := bytes) (maxL := maxL) (ret := ret) ho hl hstt hini hcode hy hK hg (hsize.trans hml.symm) (argsL := As) (rest := rest) (fun sig h => hn.trans (hlen sig h)) hstack hW (by rw [hb]; exact hdg)
    (fun vm₁ hW₁ => ⟨hf.1, hf.2, hp.2 (T.setVm vm₁) hT hW₁⟩) with ⟨v, vm₁, ⟨U', l2, c2, s2⟩, hW₁, X', ⟨g', mk, t, L, e1, e2, hq, h1, hL, h2, h3⟩, st⟩ | ⟨q, vm₁, ⟨U', l2, c2, s2⟩, hW₁, X', ⟨g', mk, t, L, E, ce, e1, e2, hq, hce, hcv, hcl, h1, hL, h2, h3⟩, st⟩
  · dsimp only [Pt.U, Pt.locs, Pt.cells, Pt.slots] at X' e1 e2 h1 h2 h3 st
    subst h1; subst h2; subst h3
    exact Or.inl ⟨v, (T.setVm vm₁).calling g' mk As.toArray, t, U', L, hT, X', hL, e1, e2, hq, st⟩
  · dsimp only [Pt.U, Pt.locs, Pt.cells, Pt.slots] at X' e1 e2 h1 h2 h3 st hcl
    subst h1; subst h2; subst h3
    exact Or.inr ⟨q, (T.setVm vm₁).calling g' mk As.toArray, t, U', L, E, ce, hT, X', hL, e1, e2, hq, hce, hcv, vx_cls hW₁ hcl, st⟩
end Runs
section Rows
variable {p : Program} {l : Launch} {e : Env} {R : Room} {s : State} {m : MethodId} {args : Array Value} {below : List Frame} {meth : Method} {c : Code} {H : Heap} {locs : List Loc} {cells slots : Nat} {Q : State → Prop}
variable {mc ms : Nat} {free : Addr → Prop} {A0 A1 : Nat → Prop} {H0 : Heap} {a : Array Value} {pc : Nat} {ls : Array Slot} {st0 rest : List Value}
theorem vx_keep {st₀ t T' : State} {L : List Loc} (h0 : st₀.heap = H) (e1 : T'.heap = t.heap) (hS : va_S A0 H0 H locs) (hA : ∀ q, q < H.size → A1 q → A0 q) (hf : ∀ q, free q → A0 q) (hL : ∀ q ∈ L, free q.base) (hF : va_F A1 st₀ t) :
    H.size ≤ T'.heap.size ∧ (∀ q : Nat, q < H.size → ¬ A1 q → T'.heap[q]? = H[q]?) ∧ va_S A0 H0 T'.heap (locs ++ L) := by
  obtain ⟨hz, hk⟩ := hF
  rw [h0] at hz hk
  exact ⟨by rw [e1]; exact hz, fun q h1 h2 => by rw [e1]; exact hk q h1 h2,
    ⟨Nat.le_trans hS.1 (by rw [e1]; exact hz), fun q h1 h2 => by rw [e1, hk q (Nat.lt_of_lt_of_le h1 hS.1) (fun z => h2 (hA q (Nat.lt_of_lt_of_le h1 hS.1) z))]; exact hS.2.1 q h1 h2, fun q hq => by
      rcases List.mem_append.mp hq with h | h
      · exact hS.2.2 q h
      · exact hf _ (hL q h)⟩⟩
theorem vx_calli {S SX : Type} {post : Int32 → S → Prop} {px : SX → Prop} {B : S → State → Prop} {BX : String → SX → State → Prop} {AX : Nat → Prop} (hr : vx_Run p l e R s m args below meth c H locs cells slots mc ms (F0 m pc ls st0) rest (va_Qi post B A1 a) (vx_X px BX AX) free) (hS : va_S A0 H0 H locs) (hA : ∀ q, q < H.size → A1 q → A0 q) (hf : ∀ q, free q → A0 q) (hAX : ∀ q, q < H.size → AX q → A0 q)
    (kx : ∀ (E : String) (ce : Cell) (q9 : Addr) (u : SX) (t : State) (H1 : Heap) (locs1 : List Loc), t.heap = H1 → s.vm.Alike t.vm → px u → BX E u t → H.size ≤ H1.size → (∀ q : Nat, q < H.size → ¬ AX q → H1[q]? = H[q]?) → va_S A0 H0 H1 locs1 → H1[q9]? = some ce → ce.vm = .none → s.vm.findClass E = some ce.cls → vx_W p l e R s m args below meth c H1 locs1 (cells + mc) (slots + ms) Q (F0 m pc ls rest) q9)
    (kk : ∀ (r : Int32) (u : S) (t : State) (H1 : Heap) (locs1 : List Loc), t.heap = H1 → s.vm.Alike t.vm → post r u → B u t → H.size ≤ H1.size → (∀ q : Nat, q < H.size → ¬ A1 q → H1[q]? = H[q]?) → va_S A0 H0 H1 locs1 → W p l e R s m args below meth c H1 locs1 (cells + mc) (slots + ms) Q (F0 m (pc + 3) ls (.int r :: rest))) : W p l e R s m args below meth c H locs cells slots Q (F0 m pc ls st0) := by
  intro T hT X
  rcases hr T hT X with ⟨v, st₀, t, T', L, h0, X', hL, e1, e2, ⟨⟨r, u, hv, hp, hb⟩, hF⟩, st⟩ | ⟨q, st₀, t, T', L, E, ce, h0, X', hL, e1, e2, ⟨u, hp, hb, hF⟩, hce, hcv, hcl, st⟩
  · cases hv
    obtain ⟨k1, k2, k3⟩ := vx_keep h0 e1 hS hA hf hL hF
    obtain ⟨t2, a1, b1⟩ := kk r u t T'.heap (locs ++ L) e1.symm (by rw [← e2]; exact X'.warmed.alike) hp hb k1 k2 k3 T' rfl X'
    exact ⟨t2, st t2 a1, b1⟩
  · obtain ⟨k1, k2, k3⟩ := vx_keep h0 e1 hS hAX hf hL hF
    obtain ⟨t2, a1, b1⟩ := kx E ce q u t T'.heap (locs ++ L) e1.symm (by rw [← e2]; exact X'.warmed.alike) hp hb k1 k2 k3 (by rw [e1]; exact hce) hcv hcl T' rfl X'
    exact ⟨t2, st.trans a1, b1⟩
theorem vx_calll {S SX : Type} {post : Int64 → S → Prop} {px : SX → Prop} {B : S → State → Prop} {BX : String → SX → State → Prop} {AX : Nat → Prop} (hr : vx_Run p l e R s m args below meth c H locs cells slots mc ms (F0 m pc ls st0) rest (va_Ql post B A1 a) (vx_X px BX AX) free) (hS : va_S A0 H0 H locs) (hA : ∀ q, q < H.size → A1 q → A0 q) (hf : ∀ q, free q → A0 q) (hAX : ∀ q, q < H.size → AX q → A0 q)
    (kx : ∀ (E : String) (ce : Cell) (q9 : Addr) (u : SX) (t : State) (H1 : Heap) (locs1 : List Loc), t.heap = H1 → s.vm.Alike t.vm → px u → BX E u t → H.size ≤ H1.size → (∀ q : Nat, q < H.size → ¬ AX q → H1[q]? = H[q]?) → va_S A0 H0 H1 locs1 → H1[q9]? = some ce → ce.vm = .none → s.vm.findClass E = some ce.cls → vx_W p l e R s m args below meth c H1 locs1 (cells + mc) (slots + ms) Q (F0 m pc ls rest) q9)
    (kk : ∀ (r : Int64) (u : S) (t : State) (H1 : Heap) (locs1 : List Loc), t.heap = H1 → s.vm.Alike t.vm → post r u → B u t → H.size ≤ H1.size → (∀ q : Nat, q < H.size → ¬ A1 q → H1[q]? = H[q]?) → va_S A0 H0 H1 locs1 → W p l e R s m args below meth c H1 locs1 (cells + mc) (slots + ms) Q (F0 m (pc + 3) ls (.long r :: rest))) : W p l e R s m args below meth c H locs cells slots Q (F0 m pc ls st0) := by
  intro T hT X
  rcases hr T hT X with ⟨v, st₀, t, T', L, h0, X', hL, e1, e2, ⟨⟨r, u, hv, hp, hb⟩, hF⟩, st⟩ | ⟨q, st₀, t, T', L, E, ce, h0, X', hL, e1, e2, ⟨u, hp, hb, hF⟩, hce, hcv, hcl, st⟩
  · cases hv
    obtain ⟨k1, k2, k3⟩ := vx_keep h0 e1 hS hA hf hL hF
    obtain ⟨t2, a1, b1⟩ := kk r u t T'.heap (locs ++ L) e1.symm (by rw [← e2]; exact X'.warmed.alike) hp hb k1 k2 k3 T' rfl X'
    exact ⟨t2, st t2 a1, b1⟩
  · obtain ⟨k1, k2, k3⟩ := vx_keep h0 e1 hS hAX hf hL hF
    obtain ⟨t2, a1, b1⟩ := kx E ce q u t T'.heap (locs ++ L) e1.symm (by rw [← e2]; exact X'.warmed.alike) hp hb k1 k2 k3 (by rw [e1]; exact hce) hcv hcl T' rfl X'
    exact ⟨t2, st.trans a1, b1⟩
theorem vx_callf {S SX : Type} {post : UInt32 → S → Prop} {px : SX → Prop} {B : S → State → Prop} {BX : String → SX → State → Prop} {AX : Nat → Prop} (hr : vx_Run p l e R s m args below meth c H locs cells slots mc ms (F0 m pc ls st0) rest (va_Qf post B A1 a) (vx_X px BX AX) free) (hS : va_S A0 H0 H locs) (hA : ∀ q, q < H.size → A1 q → A0 q) (hf : ∀ q, free q → A0 q) (hAX : ∀ q, q < H.size → AX q → A0 q)
    (kx : ∀ (E : String) (ce : Cell) (q9 : Addr) (u : SX) (t : State) (H1 : Heap) (locs1 : List Loc), t.heap = H1 → s.vm.Alike t.vm → px u → BX E u t → H.size ≤ H1.size → (∀ q : Nat, q < H.size → ¬ AX q → H1[q]? = H[q]?) → va_S A0 H0 H1 locs1 → H1[q9]? = some ce → ce.vm = .none → s.vm.findClass E = some ce.cls → vx_W p l e R s m args below meth c H1 locs1 (cells + mc) (slots + ms) Q (F0 m pc ls rest) q9)
    (kk : ∀ (r : UInt32) (u : S) (t : State) (H1 : Heap) (locs1 : List Loc), t.heap = H1 → s.vm.Alike t.vm → post r u → B u t → H.size ≤ H1.size → (∀ q : Nat, q < H.size → ¬ A1 q → H1[q]? = H[q]?) → va_S A0 H0 H1 locs1 → W p l e R s m args below meth c H1 locs1 (cells + mc) (slots + ms) Q (F0 m (pc + 3) ls (.float r :: rest))) : W p l e R s m args below meth c H locs cells slots Q (F0 m pc ls st0) := by
  intro T hT X
  rcases hr T hT X with ⟨v, st₀, t, T', L, h0, X', hL, e1, e2, ⟨⟨r, u, hv, hp, hb⟩, hF⟩, st⟩ | ⟨q, st₀, t, T', L, E, ce, h0, X', hL, e1, e2, ⟨u, hp, hb, hF⟩, hce, hcv, hcl, st⟩
  · cases hv
    obtain ⟨k1, k2, k3⟩ := vx_keep h0 e1 hS hA hf hL hF
    obtain ⟨t2, a1, b1⟩ := kk r u t T'.heap (locs ++ L) e1.symm (by rw [← e2]; exact X'.warmed.alike) hp hb k1 k2 k3 T' rfl X'
    exact ⟨t2, st t2 a1, b1⟩
  · obtain ⟨k1, k2, k3⟩ := vx_keep h0 e1 hS hAX hf hL hF
    obtain ⟨t2, a1, b1⟩ := kx E ce q u t T'.heap (locs ++ L) e1.symm (by rw [← e2]; exact X'.warmed.alike) hp hb k1 k2 k3 (by rw [e1]; exact hce) hcv hcl T' rfl X'
    exact ⟨t2, st.trans a1, b1⟩
theorem vx_calld {S SX : Type} {post : UInt64 → S → Prop} {px : SX → Prop} {B : S → State → Prop} {BX : String → SX → State → Prop} {AX : Nat → Prop} (hr : vx_Run p l e R s m args below meth c H locs cells slots mc ms (F0 m pc ls st0) rest (va_Qd post B A1 a) (vx_X px BX AX) free) (hS : va_S A0 H0 H locs) (hA : ∀ q, q < H.size → A1 q → A0 q) (hf : ∀ q, free q → A0 q) (hAX : ∀ q, q < H.size → AX q → A0 q)
    (kx : ∀ (E : String) (ce : Cell) (q9 : Addr) (u : SX) (t : State) (H1 : Heap) (locs1 : List Loc), t.heap = H1 → s.vm.Alike t.vm → px u → BX E u t → H.size ≤ H1.size → (∀ q : Nat, q < H.size → ¬ AX q → H1[q]? = H[q]?) → va_S A0 H0 H1 locs1 → H1[q9]? = some ce → ce.vm = .none → s.vm.findClass E = some ce.cls → vx_W p l e R s m args below meth c H1 locs1 (cells + mc) (slots + ms) Q (F0 m pc ls rest) q9)
    (kk : ∀ (r : UInt64) (u : S) (t : State) (H1 : Heap) (locs1 : List Loc), t.heap = H1 → s.vm.Alike t.vm → post r u → B u t → H.size ≤ H1.size → (∀ q : Nat, q < H.size → ¬ A1 q → H1[q]? = H[q]?) → va_S A0 H0 H1 locs1 → W p l e R s m args below meth c H1 locs1 (cells + mc) (slots + ms) Q (F0 m (pc + 3) ls (.double r :: rest))) : W p l e R s m args below meth c H locs cells slots Q (F0 m pc ls st0) := by
  intro T hT X
  rcases hr T hT X with ⟨v, st₀, t, T', L, h0, X', hL, e1, e2, ⟨⟨r, u, hv, hp, hb⟩, hF⟩, st⟩ | ⟨q, st₀, t, T', L, E, ce, h0, X', hL, e1, e2, ⟨u, hp, hb, hF⟩, hce, hcv, hcl, st⟩
  · cases hv
    obtain ⟨k1, k2, k3⟩ := vx_keep h0 e1 hS hA hf hL hF
    obtain ⟨t2, a1, b1⟩ := kk r u t T'.heap (locs ++ L) e1.symm (by rw [← e2]; exact X'.warmed.alike) hp hb k1 k2 k3 T' rfl X'
    exact ⟨t2, st t2 a1, b1⟩
  · obtain ⟨k1, k2, k3⟩ := vx_keep h0 e1 hS hAX hf hL hF
    obtain ⟨t2, a1, b1⟩ := kx E ce q u t T'.heap (locs ++ L) e1.symm (by rw [← e2]; exact X'.warmed.alike) hp hb k1 k2 k3 (by rw [e1]; exact hce) hcv hcl T' rfl X'
    exact ⟨t2, st.trans a1, b1⟩
theorem vx_callv {S SX : Type} {post : S → Prop} {px : SX → Prop} {B : S → State → Prop} {BX : String → SX → State → Prop} {AX : Nat → Prop} (hr : vx_Run p l e R s m args below meth c H locs cells slots mc ms (F0 m pc ls st0) rest (va_Qv post B A1 a) (vx_X px BX AX) free) (hS : va_S A0 H0 H locs) (hA : ∀ q, q < H.size → A1 q → A0 q) (hf : ∀ q, free q → A0 q) (hAX : ∀ q, q < H.size → AX q → A0 q)
    (kx : ∀ (E : String) (ce : Cell) (q9 : Addr) (u : SX) (t : State) (H1 : Heap) (locs1 : List Loc), t.heap = H1 → s.vm.Alike t.vm → px u → BX E u t → H.size ≤ H1.size → (∀ q : Nat, q < H.size → ¬ AX q → H1[q]? = H[q]?) → va_S A0 H0 H1 locs1 → H1[q9]? = some ce → ce.vm = .none → s.vm.findClass E = some ce.cls → vx_W p l e R s m args below meth c H1 locs1 (cells + mc) (slots + ms) Q (F0 m pc ls rest) q9)
    (kk : ∀ (u : S) (t : State) (H1 : Heap) (locs1 : List Loc), t.heap = H1 → s.vm.Alike t.vm → post u → B u t → H.size ≤ H1.size → (∀ q : Nat, q < H.size → ¬ A1 q → H1[q]? = H[q]?) → va_S A0 H0 H1 locs1 → W p l e R s m args below meth c H1 locs1 (cells + mc) (slots + ms) Q (F0 m (pc + 3) ls (rest))) : W p l e R s m args below meth c H locs cells slots Q (F0 m pc ls st0) := by
  intro T hT X
  rcases hr T hT X with ⟨v, st₀, t, T', L, h0, X', hL, e1, e2, ⟨⟨u, hv, hp, hb⟩, hF⟩, st⟩ | ⟨q, st₀, t, T', L, E, ce, h0, X', hL, e1, e2, ⟨u, hp, hb, hF⟩, hce, hcv, hcl, st⟩
  · cases hv
    obtain ⟨k1, k2, k3⟩ := vx_keep h0 e1 hS hA hf hL hF
    obtain ⟨t2, a1, b1⟩ := kk u t T'.heap (locs ++ L) e1.symm (by rw [← e2]; exact X'.warmed.alike) hp hb k1 k2 k3 T' rfl X'
    exact ⟨t2, st t2 a1, b1⟩
  · obtain ⟨k1, k2, k3⟩ := vx_keep h0 e1 hS hAX hf hL hF
    obtain ⟨t2, a1, b1⟩ := kx E ce q u t T'.heap (locs ++ L) e1.symm (by rw [← e2]; exact X'.warmed.alike) hp hb k1 k2 k3 (by rw [e1]; exact hce) hcv hcl T' rfl X'
    exact ⟨t2, st.trans a1, b1⟩
/-- caught by the row x of this method's table; the rows ahead don't take it -/
theorem vx_catch {own name : String} {E : String} {ce : Cell} {q : Addr} (hown : s.vm.findClass own = some m.cls) (pre : List ExceptionTableEntry) (x : ExceptionTableEntry) (suf : List ExceptionTableEntry) (hsplit : c.exceptionTable.toList = pre ++ x :: suf)
    (hpass : ∀ z ∈ pre, covers z pc = false ∨ (z.catchType ≠ 0 ∧ ∃ nm : String, (Cond.classLink own z.catchType nm).before args s = true ∧ va_Nc E nm s)) (hx : covers x pc = true) (h0 : x.catchType ≠ 0)
    (hlink : (Cond.classLink own x.catchType name).before args s = true) (hcast : (Cond.castable E name).before args s = true) (hcell : H[q]? = some ce) (hv : ce.vm = .none) (hcl : s.vm.findClass E = some ce.cls)
    (kk : W p l e R s m args below meth c H locs cells slots Q (F0 m x.handlerPc ls [.ref q])) : vx_W p l e R s m args below meth c H locs cells slots Q (F0 m pc ls rest) q := by
  intro T hT X
  have hpl : e.platform.magicAccessors = ({} : Platform).magicAccessors := by rw [X.admits.platform]
  obtain ⟨c3, c4, hc3, hc4, hasg⟩ := Cond.castable_spec hcast
  cases Option.some.inj (hc3.symm.trans hcl)
  obtain ⟨c5, hc5, hcl5⟩ := Cond.classLink_spec hown hlink e.platform hpl
  cases Option.some.inj (hc4.symm.trans hc5)
  obtain ⟨vm', X', st⟩ := X.thenCaughtThrough q (g := F0 m pc ls rest) rfl (Steps.refl _) (by rw [hT]; exact hcell) (by rw [hv]; rfl) (by obtain ⟨k9, h9, -⟩ := Vm.findClass_spec hcl; exact ⟨k9, h9⟩) pre x suf hsplit
    (fun z hz => by
      rcases hpass z hz with h | ⟨hz0, nm, hl1, hn1⟩
      · exact Or.inl h
      · obtain ⟨c6, hc6, hcl6⟩ := Cond.classLink_spec hown hl1 e.platform hpl
        obtain ⟨a8, b8, h1, h2, h3⟩ := hn1
        cases Option.some.inj (h1.symm.trans hcl)
        cases Option.some.inj (h2.symm.trans hc6)
        exact Or.inr ⟨hz0, _, hcl6, h3⟩) hx (Or.inr ⟨h0, c4, hcl5, hasg⟩)
  obtain ⟨t, a1, b1⟩ := kk (T.setVm vm') hT X'
  exact ⟨t, st.trans a1, b1⟩
end Rows
section Ends
variable {p : Program} {l : Launch} {e : Env} {R : Room} {s : State} {m : MethodId} {args : Array Value} {below : List Frame} {meth : Method} {c : Code} {H : Heap} {locs : List Loc} {cells slots : Nat} {Q : State → Prop}
variable {mc ms : Nat} {free : Addr → Prop} {A0 A1 : Nat → Prop} {H0 : Heap} {a : Array Value} {ls : Array Slot} {st0 rest : List Value}
variable {Qc : Array Value → State → Outcome → State → Prop} {XC : String → State → State → Prop}
/-- what a body that may throw owes at its end -/
def vx_MQ (below : List Frame) (Qc : Array Value → State → Outcome → State → Prop) (XC : String → State → State → Prop) (a : Array Value) (s : State) (mc ms : Nat) (free : Addr → Prop) : State → Prop := fun t =>
  ∃ o, t.status = .running ∧ Ended t below o ∧ vx_Q Qc XC mc ms free a s o t
theorem vx_ret {g : JFrame} {mc ms : Nat} (k : W p l e R s m args below meth c H locs cells slots (MQ below Qc args s mc ms free) g) : W p l e R s m args below meth c H locs cells slots (vx_MQ below Qc XC args s mc ms free) g := by
  intro T hT X
  obtain ⟨t, a1, o, b1, b2, b3, b4⟩ := k T hT X
  exact ⟨t, a1, o, b1, b2, Or.inl ⟨b3, b4⟩⟩
/-- not caught here: it goes on to the caller -/
theorem vx_widen {g : JFrame} {q : Addr} {k n : Nat} (h1 : cells ≤ k) (h2 : slots ≤ n) (kk : vx_W p l e R s m args below meth c H locs k n Q g q) : vx_W p l e R s m args below meth c H locs cells slots Q g q := fun T hT X => kk T hT (stand_widen X h1 h2)
theorem vx_out {pc : Nat} {E : String} {ce : Cell} {q : Addr} {mc ms : Nat} (hout : ∀ x ∈ c.exceptionTable.toList, covers x pc = false) (hlocks : meth.locks = false) (hcell : H[q]? = some ce) (hv : ce.vm = .none) (hcl : s.vm.findClass E = some ce.cls)
    (hx : ∀ t : State, t.heap = H → s.vm.Alike t.vm → XC E s t) (hf : ∀ z ∈ locs, free z.base) (hc : cells ≤ mc) (hs : slots ≤ ms) :
    vx_W p l e R s m args below meth c H locs cells slots (vx_MQ below Qc XC args s mc ms free) (F0 m pc ls rest) q := by
  intro T hT X
  obtain ⟨st1, hrun, hend, hW, hsm⟩ := X.leaveThrown q (g := F0 m pc ls rest) rfl rfl rfl hout hlocks
  have hcell9 : (T.setFrames (.throwing q :: below)).heap[q]? = some ce := by
    show T.heap[q]? = some ce
    rw [hT]; exact hcell
  exact ⟨_, st1, .threw q, hrun, hend, Or.inr ⟨q, rfl, E, ce, locs, hx _ hT hW.alike, hcell9, hv, hcl, hW, hsm.mono hc hs, hf⟩⟩
theorem vx_frame {U : State} {k n : Nat} (h : s.sameButNew ({ U with vm := s.vm } : State) locs k n) : s.heap.size ≤ U.heap.size ∧ ∀ q : Nat, q < s.heap.size → (∀ z ∈ locs, z.base ≠ q) → U.heap[q]? = s.heap[q]? := by
  obtain ⟨-, h2, -, -, -, h6⟩ := h
  refine ⟨h2, fun q hq hz => ?_⟩
  obtain ⟨c9, e1, e2, e3, e4⟩ := h6 q _ (Array.getElem?_eq_getElem hq)
  have hs : c9.slots = (s.heap[q]).slots := Array.ext_getElem? fun i => e4 i fun hm => hz _ hm rfl
  have h9 : c9 = s.heap[q] := by
    rw [hs] at e2
    exact e2
  have e5 : U.heap[q]? = some c9 := e1
  rw [e5, h9, Array.getElem?_eq_getElem hq]
/-- the words of a throw but the four that speak of the heap -/
def vx_no (w : Cond) : Bool := decide (w ≠ .isRef (.static Bundle.tN "UNASSIGNED_STACK" Bundle.steD)) && decide (w ≠ .isRef (.static Bundle.tN "SUPPRESSED_SENTINEL" Bundle.listD)) && decide (w ≠ .laysStatic Bundle.tN "UNASSIGNED_STACK" Bundle.steD) && decide (w ≠ .laysStatic Bundle.tN "SUPPRESSED_SENTINEL" Bundle.listD)
def vx_at0 (own : String) (ic : Nat) (X : String) (names : List String) : List Cond := (Bundle.ownAtoms0 own ic X names).filter vx_no
def vx_atS (own : String) (ic : Nat) (X : String) (names : List String) : List Cond := (Bundle.ownAtoms own ic X names).filter vx_no
/-- a word that the tables alone decide, or a good one -/
def vx_ot (w : Cond) : Bool := w.onTables || goodWord w
theorem vx_ot_at {args a' : Array Value} {s U : State} {w : Cond} (hW : s.WarmedH U.vm) (hvm : s.vm = U.vm) (hg : vx_ot w = true) (h : w.before args s = true) : w.before a' U = true := by
  simp only [vx_ot, Bool.or_eq_true] at hg
  rcases hg with hg | hg
  · exact va_tabs hg hvm h
  · exact word_at hW (good_of_word hg) h
/-- a list's words: the good ones out of the method's own list, the others by premises of their own -/
theorem vx_hat {args : Array Value} {s : State} {L B : List Cond} (h1 : ∀ w ∈ L.filter goodWord, w.before args s = true) (h2 : ∀ w ∈ L.filter (fun w => !goodWord w), w ∈ B) (h3 : ∀ w ∈ B, w.before args s = true) : ∀ w ∈ L, w.before args s = true := by
  intro w hw
  by_cases g : goodWord w = true
  · exact h1 w (List.mem_filter.mpr ⟨hw, g⟩)
  · refine h3 w (h2 w (List.mem_filter.mpr ⟨hw, ?_⟩))
    show (!goodWord w) = true
    cases hgw : goodWord w
    · rfl
    · exact absurd hgw g
theorem vx_c {args : Array Value} {s : State} {w : Cond} {B : List Cond} (h : w.before args s = true) (t : ∀ w ∈ B, w.before args s = true) : ∀ w' ∈ w :: B, w'.before args s = true := fun w' h' => (List.mem_cons.mp h').elim (fun e => by rw [e]; exact h) (t w')
theorem vx_n {args : Array Value} {s : State} : ∀ w ∈ ([] : List Cond), w.before args s = true := fun _ h => nomatch h
theorem vx_own {args : Array Value} {s : State} {L : List Cond} (h1 : ∀ w ∈ L.filter vx_no, w.before args s = true)
    (hU : (Cond.isRef (.static Bundle.tN "UNASSIGNED_STACK" Bundle.steD)).before args s = true) (hN : (Cond.isRef (.static Bundle.tN "SUPPRESSED_SENTINEL" Bundle.listD)).before args s = true)
    (lU : (Cond.laysStatic Bundle.tN "UNASSIGNED_STACK" Bundle.steD).before args s = true) (lN : (Cond.laysStatic Bundle.tN "SUPPRESSED_SENTINEL" Bundle.listD).before args s = true) : ∀ w ∈ L, w.before args s = true := by
  intro w hw
  by_cases e1 : w = .isRef (.static Bundle.tN "UNASSIGNED_STACK" Bundle.steD)
  · rw [e1]; exact hU
  · by_cases e2 : w = .isRef (.static Bundle.tN "SUPPRESSED_SENTINEL" Bundle.listD)
    · rw [e2]; exact hN
    · by_cases e3 : w = .laysStatic Bundle.tN "UNASSIGNED_STACK" Bundle.steD
      · rw [e3]; exact lU
      · by_cases e4 : w = .laysStatic Bundle.tN "SUPPRESSED_SENTINEL" Bundle.listD
        · rw [e4]; exact lN
        · exact h1 w (List.mem_filter.mpr ⟨hw, by unfold vx_no; rw [decide_eq_true e1, decide_eq_true e2, decide_eq_true e3, decide_eq_true e4]; rfl⟩)
/-- where a static field lies, its class's statics cell in H -/
def vx_L (C n d : String) (A : Nat → Prop) (U : State) (H : Heap) : Prop := ∃ (c : ClassId) (k : Class) (i : Nat) (f : Field) (a : Nat) (cell : Cell), U.vm.findClass C = some c ∧ U.fieldFound? C n d = some (c, k, i, f) ∧ f.isStatic = true ∧ k.statics = some a ∧ H[a]? = some cell ∧ cell.vm.isStatics = true ∧ cell.cls = c ∧ f.slot < cell.slots.size ∧ k.staticTypes[f.slot]? = some f.type ∧ ¬ A a
theorem vx_L.moved {C n d : String} {A : Nat → Prop} {u U : State} {H : Heap} (hvm : u.vm.Alike U.vm) (h : vx_L C n d A u H) : vx_L C n d A U H := by
  obtain ⟨c, k, i, f, a, cell, h1, h2, h3, h4, h5, h6, h7, h8, h9, h10⟩ := h
  obtain ⟨k', hi', he⟩ := State.fieldFound?_setVm hvm h2
  exact ⟨c, k', i, f, a, cell, by rw [hvm.findClass]; exact h1, hi', h3, by rw [he]; exact h4, h5, h6, h7, h8, by rw [he]; exact h9, h10⟩
theorem vx_L.kept {C n d : String} {A : Nat → Prop} {U : State} {H H1 : Heap} (h : vx_L C n d A U H) (hq : ∀ a : Nat, a < H.size → ¬ A a → H1[a]? = H[a]?) : vx_L C n d A U H1 := by
  obtain ⟨c, k, i, f, a, cell, h1, h2, h3, h4, h5, h6, h7, h8, h9, h10⟩ := h
  exact ⟨c, k, i, f, a, cell, h1, h2, h3, h4, by rw [hq a (Array.getElem?_eq_some_iff.mp h5).1 h10]; exact h5, h6, h7, h8, h9, h10⟩
theorem vx_L.narrow {C n d : String} {A B : Nat → Prop} {U : State} {H : Heap} (h : vx_L C n d A U H) (hAB : ∀ q, B q → A q) : vx_L C n d B U H := by
  obtain ⟨c, k, i, f, a, cell, h1, h2, h3, h4, h5, h6, h7, h8, h9, h10⟩ := h
  exact ⟨c, k, i, f, a, cell, h1, h2, h3, h4, h5, h6, h7, h8, h9, fun z => h10 (hAB _ z)⟩
theorem vx_L.word {C n d : String} {A : Nat → Prop} {s : State} {args : Array Value} (h : vx_L C n d A s s.heap) : (Cond.laysStatic C n d).before args s = true := by
  obtain ⟨c, k, i, f, a, cell, h1, h2, h3, h4, h5, h6, h7, h8, h9, -⟩ := h
  show (Cond.laysStatic C n d).holds args s none s [] = true
  exact Cond.laysStatic_of h1 h2 h3 h4 h5 h6 h7 h8 h9
/-- .. and what it holds: null or some reference -/
def vx_Zq (C n d : String) (A : Nat → Prop) (U : State) (H : Heap) : Prop := va_Zq C n d A U H ∧ vx_L C n d A U H
theorem vx_Zq.moved {C n d : String} {A : Nat → Prop} {u U : State} {H : Heap} (hvm : u.vm.Alike U.vm) (h : vx_Zq C n d A u H) : vx_Zq C n d A U H := ⟨va_Zq.moved hvm h.1, vx_L.moved hvm h.2⟩
theorem vx_Zq.kept {C n d : String} {A : Nat → Prop} {U : State} {H H1 : Heap} (h : vx_Zq C n d A U H) (hq : ∀ a : Nat, a < H.size → ¬ A a → H1[a]? = H[a]?) : vx_Zq C n d A U H1 := ⟨va_Zq.kept h.1 hq, vx_L.kept h.2 hq⟩
theorem vx_Zq.narrow {C n d : String} {A B : Nat → Prop} {U : State} {H : Heap} (h : vx_Zq C n d A U H) (hAB : ∀ q, B q → A q) : vx_Zq C n d B U H := ⟨va_Zq.narrow h.1 hAB, vx_L.narrow h.2 hAB⟩
theorem vx_Zqof {args : Array Value} {s : State} {C n d : String} {A : Nat → Prop} (hl : (Cond.laysStatic C n d).before args s = true) (hini : (Cond.initialized C).before args s = true) (h : (Cond.isRef (.static C n d)).before args s = true) (hA : ∀ a : Nat, a < s.heap.size → ¬ A a) : vx_Zq C n d A s s.heap := by
  refine ⟨va_Zqof hl hini h hA, ?_⟩
  obtain ⟨c, k, i, f, a, cell, h1, h2, h3, h4, h5, h6, h7, h8, h9⟩ := Cond.laysStatic_spec hl
  exact ⟨c, k, i, f, a, cell, h1, h2, h3, h4, h5, h6, h7, h8, h9, hA a (Array.getElem?_eq_some_iff.mp h5).1⟩
theorem vx_isRef {C n d : String} {v : Value} {A : Nat → Prop} {s : State} {args : Array Value} (h : va_Z C n d v A s s.heap) (hv : v.isRef = true) : (Cond.isRef (.static C n d)).before args s = true := by
  obtain ⟨cf, kf, fi, f, a, cell, h1, h2, h3, h4, h5, h6, h7, -⟩ := h
  have he : (Term.static C n d).eval args s none [] s = some v := by
    simp [Term.eval, State.fieldNamed?, h1, h2, h4, h5, h6, h7]
  simp only [Cond.before, Cond.holds, Cond.value, he]
  cases v <;> simp_all [Value.isRef]
theorem vx_isRefq {C n d : String} {A : Nat → Prop} {s : State} {args : Array Value} (h : va_Zq C n d A s s.heap) : (Cond.isRef (.static C n d)).before args s = true := by
  rcases h with h | ⟨t, h⟩
  · exact vx_isRef h rfl
  · exact vx_isRef h rfl
/-- the same frame, seen from here: as if the method were called anew in this heap -/
theorem vx_rebase {T : State} (X : Stand p l e R s m args below meth c T locs cells slots) {R' : Room} (hf : R'.frames ≤ R.frames) (hl : R'.locals ≤ R.locals) (hc : cells + R'.cells ≤ R.cells) (hs : slots + R'.slots ≤ R.slots) :
    Stand p l e R' ((T.setVm s.vm).setFrames (.invoking m args :: below)) m args below meth c T [] 0 0 := by
  have htop : (T.setVm s.vm).topJava?.isSome := X.here.top
  have hF : ((T.setVm s.vm).setFrames (.invoking m args :: below)).frames = .invoking m args :: below := State.frames_setFrames _ (State.cur_lt_of_top htop)
  obtain ⟨g₀, hg0⟩ := Option.isSome_iff_exists.mp htop
  obtain ⟨r, hr⟩ := State.topJava?_eq_some.mp hg0
  have hl9 : e.platform.stackLimits (T.setVm s.vm).me = e.platform.stackLimits s.me := X.limits
  have hb9 : (T.setVm s.vm).me.stackBytes = s.me.stackBytes := X.bytes
  refine ⟨X.admits, X.cas, X.clock, hF, ?_, X.hears, X.method, X.code, X.here, X.tail, X.warmed, ?_, ?_, ?_⟩
  · have h := X.room
    have hU : ((T.setVm s.vm).setFrames (.invoking m args :: below)).localsInUse = s.localsInUse := by
      rw [State.localsInUse_invoking hF (meth := meth) (c := c) X.method X.code, State.localsInUse_invoking X.frames X.method X.code]
    simp only [State.hasRoom, Bool.and_eq_true, decide_eq_true_eq] at h ⊢
    obtain ⟨⟨⟨⟨h1, h2, h3, h4, h5, h6⟩, h7⟩, h8⟩, h9⟩ := h
    rw [X.frames, List.length_cons] at h2 h3
    have q1 := X.heapSize
    have q2 := X.used
    simp only [hF, hU, List.length_cons, State.stackLimits_setFrames, State.stackBytes_setFrames, hl9, hb9]
    refine ⟨⟨⟨⟨by omega, by omega, by omega, by omega, by omega, h6⟩, ?_⟩, ?_⟩, X.book⟩
    · show T.heap.size + R'.cells ≤ e.platform.maxCells
      omega
    · show T.slotsUsed + R'.slots ≤ e.platform.maxSlots
      omega
  · rw [State.stackLimits_setFrames]; rfl
  · rw [State.stackBytes_setFrames]; rfl
  · refine ⟨?_, Nat.le_refl _, Nat.le_refl _, ?_, ?_, fun a c9 h9 => ⟨c9, h9, rfl, rfl, fun _ _ => rfl⟩⟩
    · obtain ⟨t, ht, -⟩ := State.frames_cons hr
      show T.setVm s.vm = { ((T.setVm s.vm).setFrames (.invoking m args :: below)).setFrames (T.setVm s.vm).frames with heap := T.heap, slotsUsed := T.slotsUsed }
      rw [State.setFrames_setFrames, State.setFrames_self ht]
      rfl
    · show T.slotsUsed = T.slotsUsed + ((T.heap.toList.drop T.heap.size).map (·.slots.size)).sum
      rw [List.drop_eq_nil_of_le (Nat.le_of_eq Array.length_toList)]
      rfl
    · show ((T.heap.toList.drop T.heap.size).map (·.slots.size)).sum ≤ 0
      rw [List.drop_eq_nil_of_le (Nat.le_of_eq Array.length_toList)]
      exact Nat.le_refl _
/-- 'throw new E()': new; dup; invokespecial; athrow -/
theorem vx_throw0 {cc : ByteArray} {pc : Nat} (hexec : p.tables.exec = Jvm.exec) (hb : c.code = cc) (hl : l.stackTraces = false) {own cls : String} {names : List String} {ik ic mc ms : Nat} {A : Nat → Prop}
    (hown : s.vm.findClass own = some m.cls) (hcls : Bundle.fit cls = true) (hnames : ∀ n ∈ names, Bundle.fit n = true)
    (hk : (Cond.classLink own ik cls).before args s = true) (hini : (Cond.initialized cls).before args s = true) (hat : ∀ w ∈ vx_at0 own ic cls names, w.before args s = true)
    (hgood : ∀ w ∈ Cond.classLink own ik cls :: Cond.initialized cls :: vx_at0 own ic cls names, vx_ot w = true)
    (hU : vx_Zq Bundle.tN "UNASSIGNED_STACK" Bundle.steD A s s.heap) (hN : vx_Zq Bundle.tN "SUPPRESSED_SENTINEL" Bundle.listD A s s.heap) (hS : va_S A s.heap H locs) (hsize : ls.size = c.maxLocals)
    (d0 : decode cc pc = .ok (.new ik, 3)) (d3 : decode cc (pc + 3) = .ok (.dup, 1)) (d4 : decode cc (pc + 4) = .ok (.invokespecial ic, 3)) (d7 : decode cc (pc + 7) = .ok (.athrow, 1))
    (hout : ∀ x ∈ c.exceptionTable.toList, covers x (pc + 7) = false)
    (hRframes : names.length + 3 < R.frames) (hRlocals : (rest.map fun v => v.category).sum + (13 * (names.length + 1) + 42) ≤ R.locals) (hRcells : cells + 1 ≤ R.cells) (hRslots : slots + 6 ≤ R.slots) (hlocks : meth.locks = false)
    (hx : ∀ t : State, s.vm.Alike t.vm → H.size ≤ t.heap.size → (∀ q : Nat, q < H.size → t.heap[q]? = H[q]?) → XC cls s t)
    (hf : ∀ z ∈ locs, free z.base) (hc : cells + 1 ≤ mc) (hs : slots + 6 ≤ ms) :
    W p l e R s m args below meth c H locs cells slots (vx_MQ below Qc XC args s mc ms free) (F0 m pc ls rest) := by
  intro T hT X
  have htr : e.platform.stackTraces = false := (show e.platform.stackTraces = l.stackTraces by rw [X.admits.platform]).trans hl
  have Y := vx_rebase X (R' := { frames := R.frames, locals := R.locals, cells := 1, slots := 6 }) (Nat.le_refl _) (Nat.le_refl _) hRcells hRslots
  obtain ⟨s', hA⟩ : ∃ z, z = (T.setVm s.vm).setFrames (.invoking m args :: below) := ⟨_, rfl⟩
  rw [← hA] at Y
  have hvm : s'.vm = s.vm := by rw [hA]; rfl
  have hhp : s'.heap = H := by rw [hA]; exact hT
  have hW0 : s.WarmedH s'.vm := by rw [hvm]; exact State.WarmedH.refl s
  have hat' : ∀ w ∈ vx_at0 own ic cls names, w.before args s' = true := fun w hw => vx_ot_at hW0 hvm.symm (hgood w (List.mem_cons_of_mem _ (List.mem_cons_of_mem _ hw))) (hat w hw)
  have hk' : (Cond.classLink own ik cls).before args s' = true := vx_ot_at hW0 hvm.symm (hgood _ List.mem_cons_self) hk
  have hini' : (Cond.initialized cls).before args s' = true := vx_ot_at hW0 hvm.symm (hgood _ (List.mem_cons_of_mem _ List.mem_cons_self)) hini
  have hU' : vx_Zq Bundle.tN "UNASSIGNED_STACK" Bundle.steD A s' s'.heap := by rw [hhp]; exact vx_Zq.moved hW0.alike (hU.kept hS.2.1)
  have hN' : vx_Zq Bundle.tN "SUPPRESSED_SENTINEL" Bundle.listD A s' s'.heap := by rw [hhp]; exact vx_Zq.moved hW0.alike (hN.kept hS.2.1)
  have h : ∀ w ∈ Bundle.ownAtoms0 own ic cls names, w.before args s' = true := vx_own hat' (vx_isRefq hU'.1) (vx_isRefq hN'.1) hU'.2.word hN'.2.word
  have hown' : s'.vm.findClass own = some m.cls := by rw [hvm]; exact hown
  have hins : (Cond.instantiable cls 6).before args s' = true := h _ (by simp [Bundle.ownAtoms0])
  obtain ⟨vm₁, cX, kX, hfX, hkX, -, -, X₁, st1⟩ := Y.newCold hexec (own := own) (C := cls) (index := ik) (n := 6) hown' hk' hins hini'
    (g := F0 m pc ls rest) rfl (by rw [hb]; exact d0) (Nat.le_refl _) (Nat.le_refl _)
  generalize hT1 : (T.setVm vm₁).pushCell { cls := cX, slots := kX.instanceTypes.map defaultValue, vm := .none } = T1 at X₁ st1
  have hcat : (Value.ref T.heap.size).category = 1 := rfl
  have hcellA : T1.heap[T.heap.size]? = some (freshCell cX kX) := by rw [← hT1]; exact State.heap_pushCell_size _ _
  have d3' : decode c.code (pc + 3) = .ok (.dup, 1) := by rw [hb]; exact d3
  obtain ⟨U, hsteps, hrun, hend, hW, hsame, ce, hce, hO⟩ := X₁.ctorThrow0 hexec htr (own := own) (cls := cls) (names := names) (ic := ic) hown' hcls hnames h (fun x hx => nomatch hx) hfX hkX hcellA (by rw [hhp, hT]; exact Nat.le_refl _)
    (g := { method := m, pc := pc + 4, locals := ls, stack := .ref T.heap.size :: .ref T.heap.size :: rest, locked := none }) rfl hsize rfl rfl (rest := rest) rfl
    (by rw [hb]; exact d4) (by rw [hb]; exact d7) hout hRframes (by simp only [List.map_cons, List.sum_cons, hcat]; omega) hlocks
  obtain ⟨f1, f2⟩ := vx_frame hsame
  rw [hhp] at f1 f2
  have hWs : s.WarmedH U.vm := State.WarmedH.trans hW0 hW
  have hcl : s.vm.findClass cls = some ce.cls := by
    have h9 := hO.cls
    rw [hvm] at h9
    exact h9
  have hall : s.sameButNew ({ U with vm := s.vm } : State) locs mc ms := by
    subst hA
    obtain ⟨e1, e2⟩ := hsame
    rw [State.setFrames_setFrames] at e1
    have h2 : (T.setVm s.vm).sameButNew ({ U with vm := s.vm } : State) [] (0 + 1) (0 + 6) := ⟨e1, e2⟩
    have h3 := X.same.trans h2
    rw [List.append_nil] at h3
    exact h3.mono hc hs
  refine ⟨U, ?_, .threw T.heap.size, hrun, hend, Or.inr ⟨T.heap.size, rfl, cls, ce, locs, hx U hWs.alike f1 (fun q hq => f2 q hq (fun z hz => nomatch hz)), hce, hO.vm, hcl, hWs, hall, hf⟩⟩
  refine st1 _ ?_
  show Steps p.tables e below (T1.setTop { method := m, pc := pc + 3, locals := ls, stack := .ref T.heap.size :: rest, locked := none }) _
  jvm_step X₁.here [X₁.here.top, hexec, d3', Value.category]
  exact hsteps
/-- 'throw new E("text")': new; dup; ldc; invokespecial; athrow -/
theorem vx_throwS {cc : ByteArray} {pc : Nat} (hexec : p.tables.exec = Jvm.exec) (hb : c.code = cc) (hl : l.stackTraces = false) {own cls text : String} {names : List String} {ik is ic mc ms sa : Nat} {A : Nat → Prop}
    (hown : s.vm.findClass own = some m.cls) (hcls : Bundle.fit cls = true) (hnames : ∀ n ∈ names, Bundle.fit n = true)
    (hk : (Cond.classLink own ik cls).before args s = true) (hini : (Cond.initialized cls).before args s = true) (hstr : vk_R own is text sa s) (hat : ∀ w ∈ vx_atS own ic cls names, w.before args s = true)
    (hgood : ∀ w ∈ Cond.classLink own ik cls :: Cond.initialized cls :: vx_atS own ic cls names, vx_ot w = true)
    (hU : vx_Zq Bundle.tN "UNASSIGNED_STACK" Bundle.steD A s s.heap) (hN : vx_Zq Bundle.tN "SUPPRESSED_SENTINEL" Bundle.listD A s s.heap) (hS : va_S A s.heap H locs) (hsize : ls.size = c.maxLocals)
    (d0 : decode cc pc = .ok (.new ik, 3)) (d3 : decode cc (pc + 3) = .ok (.dup, 1)) (d4 : decode cc (pc + 4) = .ok (.ldc is, 2)) (d6 : decode cc (pc + 6) = .ok (.invokespecial ic, 3)) (d9 : decode cc (pc + 9) = .ok (.athrow, 1))
    (hout : ∀ x ∈ c.exceptionTable.toList, covers x (pc + 9) = false)
    (hRframes : names.length + 3 < R.frames) (hRlocals : (rest.map fun v => v.category).sum + (13 * (names.length + 1) + 43) ≤ R.locals) (hRcells : cells + 1 ≤ R.cells) (hRslots : slots + 6 ≤ R.slots) (hlocks : meth.locks = false)
    (hx : ∀ t : State, s.vm.Alike t.vm → H.size ≤ t.heap.size → (∀ q : Nat, q < H.size → t.heap[q]? = H[q]?) → XC cls s t)
    (hf : ∀ z ∈ locs, free z.base) (hc : cells + 1 ≤ mc) (hs : slots + 6 ≤ ms) :
    W p l e R s m args below meth c H locs cells slots (vx_MQ below Qc XC args s mc ms free) (F0 m pc ls rest) := by
  intro T hT X
  have htr : e.platform.stackTraces = false := (show e.platform.stackTraces = l.stackTraces by rw [X.admits.platform]).trans hl
  have Y := vx_rebase X (R' := { frames := R.frames, locals := R.locals, cells := 1, slots := 6 }) (Nat.le_refl _) (Nat.le_refl _) hRcells hRslots
  obtain ⟨s', hA⟩ : ∃ z, z = (T.setVm s.vm).setFrames (.invoking m args :: below) := ⟨_, rfl⟩
  rw [← hA] at Y
  have hvm : s'.vm = s.vm := by rw [hA]; rfl
  have hhp : s'.heap = H := by rw [hA]; exact hT
  have hW0 : s.WarmedH s'.vm := by rw [hvm]; exact State.WarmedH.refl s
  have hat' : ∀ w ∈ vx_atS own ic cls names, w.before args s' = true := fun w hw => vx_ot_at hW0 hvm.symm (hgood w (List.mem_cons_of_mem _ (List.mem_cons_of_mem _ hw))) (hat w hw)
  have hk' : (Cond.classLink own ik cls).before args s' = true := vx_ot_at hW0 hvm.symm (hgood _ List.mem_cons_self) hk
  have hini' : (Cond.initialized cls).before args s' = true := vx_ot_at hW0 hvm.symm (hgood _ (List.mem_cons_of_mem _ List.mem_cons_self)) hini
  have hU' : vx_Zq Bundle.tN "UNASSIGNED_STACK" Bundle.steD A s' s'.heap := by rw [hhp]; exact vx_Zq.moved hW0.alike (hU.kept hS.2.1)
  have hN' : vx_Zq Bundle.tN "SUPPRESSED_SENTINEL" Bundle.listD A s' s'.heap := by rw [hhp]; exact vx_Zq.moved hW0.alike (hN.kept hS.2.1)
  have h : ∀ w ∈ Bundle.ownAtoms own ic cls names, w.before args s' = true := vx_own hat' (vx_isRefq hU'.1) (vx_isRefq hN'.1) hU'.2.word hN'.2.word
  have hown' : s'.vm.findClass own = some m.cls := by rw [hvm]; exact hown
  have hins : (Cond.instantiable cls 6).before args s' = true := h _ (by simp [Bundle.ownAtoms])
  obtain ⟨vm₁, cX, kX, hfX, hkX, -, -, X₁, st1⟩ := Y.newCold hexec (own := own) (C := cls) (index := ik) (n := 6) hown' hk' hins hini'
    (g := F0 m pc ls rest) rfl (by rw [hb]; exact d0) (Nat.le_refl _) (Nat.le_refl _)
  generalize hT1 : (T.setVm vm₁).pushCell { cls := cX, slots := kX.instanceTypes.map defaultValue, vm := .none } = T1 at X₁ st1
  have hcat : (Value.ref T.heap.size).category = 1 := rfl
  have hcellA : T1.heap[T.heap.size]? = some (freshCell cX kX) := by rw [← hT1]; exact State.heap_pushCell_size _ _
  have d3' : decode c.code (pc + 3) = .ok (.dup, 1) := by rw [hb]; exact d3
  have d4' : decode c.code (pc + 4) = .ok (.ldc is, 2) := by rw [hb]; exact d4
  have hstr' : vk_R own is text sa s' := vk_R.warm hW0 hstr
  obtain ⟨U, hsteps, hrun, hend, hW, hsame, ce, hce, hO⟩ := X₁.ctorThrowS hexec htr (own := own) (cls := cls) (names := names) (ic := ic) hown' hcls hnames h (fun x hx => nomatch hx) hfX hkX hcellA (by rw [hhp, hT]; exact Nat.le_refl _) (msg := .ref sa) rfl
    (g := { method := m, pc := pc + 6, locals := ls, stack := .ref sa :: .ref T.heap.size :: .ref T.heap.size :: rest, locked := none }) rfl hsize rfl rfl (rest := rest) rfl
    (by rw [hb]; exact d6) (by rw [hb]; exact d9) hout hRframes (by simp only [List.map_cons, List.sum_cons, hcat]; omega) hlocks
  obtain ⟨f1, f2⟩ := vx_frame hsame
  rw [hhp] at f1 f2
  have hWs : s.WarmedH U.vm := State.WarmedH.trans hW0 hW
  have hcl : s.vm.findClass cls = some ce.cls := by
    have h9 := hO.cls
    rw [hvm] at h9
    exact h9
  have hall : s.sameButNew ({ U with vm := s.vm } : State) locs mc ms := by
    subst hA
    obtain ⟨e1, e2⟩ := hsame
    rw [State.setFrames_setFrames] at e1
    have h2 : (T.setVm s.vm).sameButNew ({ U with vm := s.vm } : State) [] (0 + 1) (0 + 6) := ⟨e1, e2⟩
    have h3 := X.same.trans h2
    rw [List.append_nil] at h3
    exact h3.mono hc hs
  refine ⟨U, ?_, .threw T.heap.size, hrun, hend, Or.inr ⟨T.heap.size, rfl, cls, ce, locs, hx U hWs.alike f1 (fun q hq => f2 q hq (fun z hz => nomatch hz)), hce, hO.vm, hcl, hWs, hall, hf⟩⟩
  refine st1 _ ?_
  show Steps p.tables e below (T1.setTop { method := m, pc := pc + 3, locals := ls, stack := .ref T.heap.size :: rest, locked := none }) _
  jvm_step X₁.here [X₁.here.top, hexec, d3', Value.category]
  exact X₁.ldcString hexec (own := own) (text := text) (index := is) (a := sa) hown' hstr'.1 hstr'.2
    (g := { method := m, pc := pc + 4, locals := ls, stack := .ref T.heap.size :: .ref T.heap.size :: rest, locked := none }) rfl d4' _ hsteps
/-- 'throw new E("text")', the text by a wide index -/
theorem vx_throwSW {cc : ByteArray} {pc : Nat} (hexec : p.tables.exec = Jvm.exec) (hb : c.code = cc) (hl : l.stackTraces = false) {own cls text : String} {names : List String} {ik is ic mc ms sa : Nat} {A : Nat → Prop}
    (hown : s.vm.findClass own = some m.cls) (hcls : Bundle.fit cls = true) (hnames : ∀ n ∈ names, Bundle.fit n = true)
    (hk : (Cond.classLink own ik cls).before args s = true) (hini : (Cond.initialized cls).before args s = true) (hstr : vk_R own is text sa s) (hat : ∀ w ∈ vx_atS own ic cls names, w.before args s = true)
    (hgood : ∀ w ∈ Cond.classLink own ik cls :: Cond.initialized cls :: vx_atS own ic cls names, vx_ot w = true)
    (hU : vx_Zq Bundle.tN "UNASSIGNED_STACK" Bundle.steD A s s.heap) (hN : vx_Zq Bundle.tN "SUPPRESSED_SENTINEL" Bundle.listD A s s.heap) (hS : va_S A s.heap H locs) (hsize : ls.size = c.maxLocals)
    (d0 : decode cc pc = .ok (.new ik, 3)) (d3 : decode cc (pc + 3) = .ok (.dup, 1)) (d4 : decode cc (pc + 4) = .ok (.ldc_w is, 3)) (d7 : decode cc (pc + 7) = .ok (.invokespecial ic, 3)) (d10 : decode cc (pc + 10) = .ok (.athrow, 1))
    (hout : ∀ x ∈ c.exceptionTable.toList, covers x (pc + 10) = false)
    (hRframes : names.length + 3 < R.frames) (hRlocals : (rest.map fun v => v.category).sum + (13 * (names.length + 1) + 43) ≤ R.locals) (hRcells : cells + 1 ≤ R.cells) (hRslots : slots + 6 ≤ R.slots) (hlocks : meth.locks = false)
    (hx : ∀ t : State, s.vm.Alike t.vm → H.size ≤ t.heap.size → (∀ q : Nat, q < H.size → t.heap[q]? = H[q]?) → XC cls s t)
    (hf : ∀ z ∈ locs, free z.base) (hc : cells + 1 ≤ mc) (hs : slots + 6 ≤ ms) :
    W p l e R s m args below meth c H locs cells slots (vx_MQ below Qc XC args s mc ms free) (F0 m pc ls rest) := by
  intro T hT X
  have htr : e.platform.stackTraces = false := (show e.platform.stackTraces = l.stackTraces by rw [X.admits.platform]).trans hl
  have Y := vx_rebase X (R' := { frames := R.frames, locals := R.locals, cells := 1, slots := 6 }) (Nat.le_refl _) (Nat.le_refl _) hRcells hRslots
  obtain ⟨s', hA⟩ : ∃ z, z = (T.setVm s.vm).setFrames (.invoking m args :: below) := ⟨_, rfl⟩
  rw [← hA] at Y
  have hvm : s'.vm = s.vm := by rw [hA]; rfl
  have hhp : s'.heap = H := by rw [hA]; exact hT
  have hW0 : s.WarmedH s'.vm := by rw [hvm]; exact State.WarmedH.refl s
  have hat' : ∀ w ∈ vx_atS own ic cls names, w.before args s' = true := fun w hw => vx_ot_at hW0 hvm.symm (hgood w (List.mem_cons_of_mem _ (List.mem_cons_of_mem _ hw))) (hat w hw)
  have hk' : (Cond.classLink own ik cls).before args s' = true := vx_ot_at hW0 hvm.symm (hgood _ List.mem_cons_self) hk
  have hini' : (Cond.initialized cls).before args s' = true := vx_ot_at hW0 hvm.symm (hgood _ (List.mem_cons_of_mem _ List.mem_cons_self)) hini
  have hU' : vx_Zq Bundle.tN "UNASSIGNED_STACK" Bundle.steD A s' s'.heap := by rw [hhp]; exact vx_Zq.moved hW0.alike (hU.kept hS.2.1)
  have hN' : vx_Zq Bundle.tN "SUPPRESSED_SENTINEL" Bundle.listD A s' s'.heap := by rw [hhp]; exact vx_Zq.moved hW0.alike (hN.kept hS.2.1)
  have h : ∀ w ∈ Bundle.ownAtoms own ic cls names, w.before args s' = true := vx_own hat' (vx_isRefq hU'.1) (vx_isRefq hN'.1) hU'.2.word hN'.2.word
  have hown' : s'.vm.findClass own = some m.cls := by rw [hvm]; exact hown
  have hins : (Cond.instantiable cls 6).before args s' = true := h _ (by simp [Bundle.ownAtoms])
  obtain ⟨vm₁, cX, kX, hfX, hkX, -, -, X₁, st1⟩ := Y.newCold hexec (own := own) (C := cls) (index := ik) (n := 6) hown' hk' hins hini'
    (g := F0 m pc ls rest) rfl (by rw [hb]; exact d0) (Nat.le_refl _) (Nat.le_refl _)
  generalize hT1 : (T.setVm vm₁).pushCell { cls := cX, slots := kX.instanceTypes.map defaultValue, vm := .none } = T1 at X₁ st1
  have hcat : (Value.ref T.heap.size).category = 1 := rfl
  have hcellA : T1.heap[T.heap.size]? = some (freshCell cX kX) := by rw [← hT1]; exact State.heap_pushCell_size _ _
  have d3' : decode c.code (pc + 3) = .ok (.dup, 1) := by rw [hb]; exact d3
  have d4' : decode c.code (pc + 4) = .ok (.ldc_w is, 3) := by rw [hb]; exact d4
  have hstr' : vk_R own is text sa s' := vk_R.warm hW0 hstr
  obtain ⟨U, hsteps, hrun, hend, hW, hsame, ce, hce, hO⟩ := X₁.ctorThrowS hexec htr (own := own) (cls := cls) (names := names) (ic := ic) hown' hcls hnames h (fun x hx => nomatch hx) hfX hkX hcellA (by rw [hhp, hT]; exact Nat.le_refl _) (msg := .ref sa) rfl
    (g := { method := m, pc := pc + 7, locals := ls, stack := .ref sa :: .ref T.heap.size :: .ref T.heap.size :: rest, locked := none }) rfl hsize rfl rfl (rest := rest) rfl
    (by rw [hb]; exact d7) (by rw [hb]; exact d10) hout hRframes (by simp only [List.map_cons, List.sum_cons, hcat]; omega) hlocks
  obtain ⟨f1, f2⟩ := vx_frame hsame
  rw [hhp] at f1 f2
  have hWs : s.WarmedH U.vm := State.WarmedH.trans hW0 hW
  have hcl : s.vm.findClass cls = some ce.cls := by
    have h9 := hO.cls
    rw [hvm] at h9
    exact h9
  have hall : s.sameButNew ({ U with vm := s.vm } : State) locs mc ms := by
    subst hA
    obtain ⟨e1, e2⟩ := hsame
    rw [State.setFrames_setFrames] at e1
    have h2 : (T.setVm s.vm).sameButNew ({ U with vm := s.vm } : State) [] (0 + 1) (0 + 6) := ⟨e1, e2⟩
    have h3 := X.same.trans h2
    rw [List.append_nil] at h3
    exact h3.mono hc hs
  refine ⟨U, ?_, .threw T.heap.size, hrun, hend, Or.inr ⟨T.heap.size, rfl, cls, ce, locs, hx U hWs.alike f1 (fun q hq => f2 q hq (fun z hz => nomatch hz)), hce, hO.vm, hcl, hWs, hall, hf⟩⟩
  refine st1 _ ?_
  show Steps p.tables e below (T1.setTop { method := m, pc := pc + 3, locals := ls, stack := .ref T.heap.size :: rest, locked := none }) _
  jvm_step X₁.here [X₁.here.top, hexec, d3', Value.category]
  exact X₁.ldcStringW hexec (own := own) (text := text) (index := is) (a := sa) hown' hstr'.1 hstr'.2
    (g := { method := m, pc := pc + 4, locals := ls, stack := .ref T.heap.size :: .ref T.heap.size :: rest, locked := none }) rfl d4' _ hsteps
end Ends
section Bodies
variable {l : Launch}
theorem vx_ofW {y : MethodName} {ws ws' : List Cond} {rm : Room} {Pc : Array Value → State → Prop} {Qc : Array Value → State → Outcome → State → Prop} {XC : String → State → State → Prop} {mc ms : Nat} {free : Addr → Prop} {cc : ByteArray} {maxL : Nat} {ret : Option FieldType}
    (hy : plainName y.cls = true) (hw : ws = Cond.code y cc maxL ret :: ws')
    (body : ∀ p e s m args below meth c s₁, BodyLoose p l y (headSpec ws rm) cc maxL ret e s m args below meth c s₁ → c.maxLocals = maxL → (∀ x ∈ c.exceptionTable.toList, False) → Pc args s →
      W p l e (headSpec ws rm).room s m args below meth c s.heap [] 0 0 (vx_MQ below Qc XC args s mc ms free) (entryFrame m args maxL)) : vx_Met l y ws rm Pc Qc XC mc ms free := by
  refine MetFree.of_bodyS (code := cc) (maxLocals := maxL) (ret := ret) hy ?_ ?_
  · intro args s m h hn
    obtain ⟨meth, c, h1, h2, h3, h4, h5, h6, -, -⟩ := Cond.code_spec hn (atoms_spec (ws := ws) h _ (by rw [hw]; exact List.mem_cons_self))
    exact ⟨meth, c, h1, h2, h3, h4, h5, h6⟩
  · intro p e s m args below meth c s₁ B hml hP _
    have hh0 : s₁.heap = s.heap := by rw [B.state]; rfl
    have ht : ∀ x ∈ c.exceptionTable.toList, False := by
      obtain ⟨meth9, c9, h1, h2, -, -, -, -, h7, -⟩ := Cond.code_spec B.named (atoms_spec (ws := ws) B.pre _ (by rw [hw]; exact List.mem_cons_self))
      cases Option.some.inj (h1.symm.trans B.method)
      cases Option.some.inj (h2.symm.trans (Stand.of_body B).code)
      intro x hx
      rw [Array.isEmpty_iff.mp h7] at hx
      cases hx
    obtain ⟨t, a1, o, b1, b2, b3⟩ := body p e s m args below meth c s₁ B hml ht hP s₁ hh0 (Stand.of_body B)
    exact ⟨t, o, a1, b1, b2, b3⟩
/-- the table of a body with handlers -/
theorem vx_table {p : Program} {x y : MethodName} {S : Spec} {cc bytes : ByteArray} {maxL maxL' : Nat} {ret ret' : Option FieldType} {e : Env} {s s₁ : State} {m : MethodId} {args : Array Value} {below : List Frame} {meth : Method} {c : Code} {hh : List (Nat × Nat × Nat × Nat)}
    (B : BodyLoose p l y S cc maxL ret e s m args below meth c s₁) (h : (Cond.codeWith y bytes maxL' ret' hh).before args s = true) : c.exceptionTable.toList = tableOf hh := by
  obtain ⟨m9, meth9, c9, hn9, h1, h2, -, -, h6, -⟩ := Cond.codeWith_spec h
  cases Option.some.inj (hn9.symm.trans B.named)
  cases Option.some.inj (h1.symm.trans B.method)
  cases Option.some.inj (h2.symm.trans (Stand.of_body B).code)
  rw [← h6, table_eq]
end Bodies
end VXA
/-! ===== END ===== -/
/-! ===== BEGIN a static call of a method with an exception table ===== -/
section VXS
variable {p : Program} {l : Launch} {e : Env} {R : Room} {s : State} {m : MethodId} {args : Array Value} {below : List Frame} {meth : Method} {c : Code} {T : State} {H : Heap} {locs : List Loc} {cells slots : Nat}
abbrev vx_CSW (R : Room) (s : State) (args : Array Value) (own : String) (index : Nat) (y : MethodName) (bytes : ByteArray) (maxL : Nat) (ret : Option FieldType) (hh : List (Nat × Nat × Nat × Nat)) (ws : List Cond) (rm : Room) (mc ms n : Nat) : Prop :=
  (rm.cells = mc ∧ rm.slots = ms ∧ rm.frames + 1 ≤ R.frames ∧ 8 + (maxL + 11) + rm.locals ≤ R.locals ∧ (∀ w ∈ ws, ∀ (a' : Array Value) (U : State), s.WarmedH U.vm → w.before a' U = true) ∧ Cond.codeWith y bytes maxL ret hh ∈ ws) ∧
  (Cond.codeWith y bytes maxL ret hh).before args s = true ∧ (Cond.initialized y.cls).before args s = true ∧ (y.cls ≠ "java/lang/invoke/MethodHandle" ∧ y.cls ≠ "java/lang/invoke/VarHandle") ∧
  (∀ sig, parseMethodDescriptor y.desc = some sig → n = sig.parameters.length) ∧ (Cond.methodLink own index y).before args s = true ∧ (Cond.static y).before args s = true
theorem vx_cwSW {own : String} {index maxL mc ms : Nat} {y : MethodName} {bytes : ByteArray} {ret : Option FieldType} {hh : List (Nat × Nat × Nat × Nat)} {Ts ws ws' : List Cond} {rm : Room} (n : Nat) (ht : ∀ w ∈ Ts, w.before args s = true) (hT : GoodIn Ts (va_wsS own index y ws)) (hw : ws = Cond.codeWith y bytes maxL ret hh :: ws') (hrc : rm.cells = mc) (hrs : rm.slots = ms)
    (hd : y.cls ≠ "java/lang/invoke/MethodHandle" ∧ y.cls ≠ "java/lang/invoke/VarHandle" ∧ (parseMethodDescriptor y.desc).map (fun d => d.parameters.length) = some n) (hR : rm.frames + 1 ≤ R.frames ∧ 8 + (maxL + 11) + rm.locals ≤ R.locals) :
    vx_CSW R s args own index y bytes maxL ret hh ws rm mc ms n := by
  have ok : ∀ w ∈ va_wsS own index y ws, w.before args s = true := fun w h => ht w (hT w h).1
  have hG : GoodIn Ts ws := fun w h => hT w (by unfold va_wsS; exact List.mem_append_right _ h)
  have hc : Cond.codeWith y bytes maxL ret hh ∈ ws := by rw [hw]; exact List.mem_cons_self
  refine ⟨⟨hrc, hrs, hR.1, hR.2, pay_in ht hG, hc⟩, ht _ (hG _ hc).1, ok _ (by simp [va_wsS]), ⟨hd.1, hd.2.1⟩, fun sig h => ?_, ok _ (by simp [va_wsS]), ok _ (by simp [va_wsS])⟩
  have h2 := hd.2.2
  rw [h] at h2
  exact (Option.some.inj h2).symm
theorem vx_callSW (X : Stand p l e R s m args below meth c T locs cells slots) (hexec : p.tables.exec = Jvm.exec) {own : String} {index : Nat} {y : MethodName} {bytes : ByteArray} {maxL : Nat} {ret : Option FieldType} {hh : List (Nat × Nat × Nat × Nat)}
    (hown : s.vm.findClass own = some m.cls) (hlink : (Cond.methodLink own index y).before args s = true) (hstat : (Cond.static y).before args s = true) (hinit : (Cond.initialized y.cls).before args s = true)
    (hcode : (Cond.codeWith y bytes maxL ret hh).before args s = true) (hy : y.cls ≠ "java/lang/invoke/MethodHandle" ∧ y.cls ≠ "java/lang/invoke/VarHandle")
    {W9 : Nat} {Pre : Pt → Array Value → Prop} {Post : Pt → Array Value → Option Value → Pt → Prop} (hK : Back l R p e below s args y 3 W9 Pre Post)
    {g : JFrame} (hg : g.method = m) (hsize : g.locals.size = c.maxLocals) {argsL rest : List Value} (hlen : ∀ sig, parseMethodDescriptor y.desc = some sig → argsL.length = sig.parameters.length)
    (hstack : g.stack = argsL.reverse ++ rest) (hW : 2 * g.monitorRoom + (rest.map fun v => v.category).sum ≤ W9) (hdg : decode c.code g.pc = .ok (.invokestatic index, 3))
    (hpre : ∀ vm₁, s.WarmedH vm₁ → Pre ⟨T.setVm vm₁, locs, cells, slots⟩ argsL.toArray) :
    ∃ (v : Option Value) (vm₁ : Vm) (B : Pt), s.WarmedH vm₁ ∧ Stand p l e R s m args below meth c B.U B.locs B.cells B.slots ∧ Post ⟨T.setVm vm₁, locs, cells, slots⟩ argsL.toArray v B ∧
      ∀ target, Steps p.tables e below (B.U.setTop { g with pc := g.pc + 3, stack := v.toList ++ rest }) target → Steps p.tables e below (T.setTop g) target := by
  obtain ⟨mk, methM, cM, hnamed, hmethM, -, -, -, -, -, -, hsigM⟩ := Cond.codeWith_spec hcode
  have hstatic : methM.isStatic = true := Cond.static_spec hnamed hmethM hstat
  obtain ⟨kP, hkP, -⟩ := className_of_methodNamed hnamed
  have hinitP : kP.init = .initialized := Cond.initialized_spec (findClass_of_methodNamed hnamed) hkP hinit
  obtain ⟨vm₁, X₁, hstep₁⟩ := X.invokestatic hexec hown hlink hnamed hmethM hstatic hkP hinitP hy (g := g) hg (argsL := argsL) (rest := rest) (hlen _ hsigM) hstack hdg
  obtain ⟨v, B, X', hpost, hsteps⟩ := hK m meth c ⟨T.setVm vm₁, locs, cells, slots⟩ { g with stack := rest } (.invokestatic index) mk argsL.toArray X₁ hg hsize hdg hW (X₁.named hnamed) (hpre vm₁ X₁.warmed)
  exact ⟨v, vm₁, B, X₁.warmed, X', hpost, fun target h => hstep₁ _ fun acts => by rw [doInvoke_state]; exact hsteps.trans h⟩
theorem vx_runSW {y : MethodName} {bytes cc : ByteArray} {maxL nL mc ms n index : Nat} {ret : Option FieldType} {hh : List (Nat × Nat × Nat × Nat)} {ws : List Cond} {rm : Room} {Pc : Array Value → State → Prop} {Qc : Array Value → State → Outcome → State → Prop} {free : Addr → Prop} {Ts : List Cond} {own : String} {As rest : List Value} {g : JFrame}
    (S : CallFix p m c cc nL s args Ts own) (hM : Met l y ws rm Pc Qc mc ms free) (cw : vx_CSW R s args own index y bytes maxL ret hh ws rm mc ms n) (hp : PreS s H Pc As)
    (hg : g.method = m) (hn : As.length = n) (hsize : g.locals.size = nL) (hstack : g.stack = As.reverse ++ rest) (hW : 2 * g.monitorRoom + (rest.map fun v => v.category).sum ≤ 8) (hdg : decode cc g.pc = .ok (.invokestatic index, 3)) (hf : cells + mc ≤ R.cells ∧ slots + ms ≤ R.slots) :
    va_Run p l e R s m args below meth c H locs cells slots mc ms g rest (Qc As.toArray) (free) := by
  obtain ⟨⟨hrc, hrs, hfr, hlo, hws, hcw⟩, hcode, hini, hy, hlen, hl, hstt⟩ := cw
  have hK : Back l R p e below s args y 3 8 (PreOf R mc ms Pc) (PostOf Qc mc ms free) := va_backW (hh := hh) (bytes := bytes) (maxL := maxL) (ret := ret) hM hp.1 hrc hrs hfr hlo hws hcw (fun a' U hW => word_at hW (Or.inl (by first | rfl | simp [Cond.onTables, Cond.keeps, Cond.steady])) hini)
  obtain ⟨hx, hb, hml, ho, -⟩ := S
  intro T hT X
  obtain ⟨v, vm₁, ⟨U', l2, c2, s2⟩, hW₁, X', ⟨g', mk, t, L, e1, e2, hq, h1, hL, h2, h3⟩, st⟩ := vx_callSW X hx (hh := hh) (bytes := bytes) (maxL := maxL) (ret := ret) ho hl hstt hini hcode hy hK hg (hsize.trans hml.symm) (argsL := As) (rest := rest) (fun sig h => hn.trans (hlen sig h)) hstack hW (by rw [hb]; exact hdg)
    (fun vm₁ hW₁ => ⟨hf.1, hf.2, hp.2 (T.setVm vm₁) hT hW₁⟩)
  dsimp only [Pt.U, Pt.locs, Pt.cells, Pt.slots] at X' e1 e2 h1 h2 h3 st
  subst h1; subst h2; subst h3
  exact ⟨v, (T.setVm vm₁).calling g' mk As.toArray, t, U', L, hT, X', hL, e1, e2, hq, st⟩
/-- not caught here, past rows that name other classes: it goes on to the caller -/
theorem vx_outP {p : Program} {l : Launch} {e : Env} {R : Room} {s : State} {m : MethodId} {args : Array Value} {below : List Frame} {meth : Method} {c : Code} {H : Heap} {locs : List Loc} {cells slots : Nat} {free : Addr → Prop} {ls : Array Slot} {rest : List Value} {Qc : Array Value → State → Outcome → State → Prop} {XC : String → State → State → Prop}
    {pc : Nat} {own E : String} {ce : Cell} {q : Addr} {mc ms : Nat} (hown : s.vm.findClass own = some m.cls) (hlocks : meth.locks = false)
    (hpass : ∀ z ∈ c.exceptionTable.toList, covers z pc = false ∨ (z.catchType ≠ 0 ∧ ∃ nm : String, (Cond.classLink own z.catchType nm).before args s = true ∧ va_Nc E nm s)) (hcell : H[q]? = some ce) (hv : ce.vm = .none) (hcl : s.vm.findClass E = some ce.cls)
    (hx : ∀ t : State, t.heap = H → s.vm.Alike t.vm → XC E s t) (hf : ∀ z ∈ locs, free z.base) (hc : cells ≤ mc) (hs : slots ≤ ms) :
    vx_W p l e R s m args below meth c H locs cells slots (vx_MQ below Qc XC args s mc ms free) (F0 m pc ls rest) q := by
  intro T hT X
  have hpl : e.platform.magicAccessors = ({} : Platform).magicAccessors := by rw [X.admits.platform]
  obtain ⟨vm', hW', X', st⟩ := X.outThrough hlocks q (g := F0 m pc ls rest) rfl rfl rfl (cell := ce) (by rw [hT]; exact hcell) (by rw [hv]; rfl)
    (by obtain ⟨k9, h9, -⟩ := Vm.findClass_spec hcl; exact ⟨k9, h9⟩) (fun z hz => by
      rcases hpass z hz with h | ⟨hz0, nm, hl1, hn1⟩
      · exact Or.inl h
      · obtain ⟨c6, hc6, hcl6⟩ := Cond.classLink_spec hown hl1 e.platform hpl
        obtain ⟨a8, b8, h1, h2, h3⟩ := hn1
        cases Option.some.inj (h1.symm.trans hcl)
        cases Option.some.inj (h2.symm.trans hc6)
        exact Or.inr ⟨hz0, _, hcl6, h3⟩)
  obtain ⟨g₀, hfr⟩ := X'.frames_eq
  have hcell9 : ((T.setVm vm').setFrames (.throwing q :: below)).heap[q]? = some ce := by
    show T.heap[q]? = some ce
    rw [hT]; exact hcell
  have hend : Ended ((T.setVm vm').setFrames (.throwing q :: below)) below (.threw q) := State.frames_setFrames _ (State.cur_lt_of_frames hfr)
  refine ⟨(T.setVm vm').setFrames (.throwing q :: below), ?_, .threw q, X'.here.running, hend, Or.inr ⟨q, rfl, E, ce, locs, hx _ hT (X'.ends _).1.alike, hcell9, hv, hcl, (X'.ends _).1, (X'.ends _).2.mono hc hs, hf⟩⟩
  rw [X.pushThrowing_eq]
  exact st
/-- a thing of a world lies in the heap -/
theorem vx_lt {D : va_G} {cl : List vw_C} {ws : va_W} {H1 : Heap} (h : va_P D cl ws H1) {k : Nat} {q : Nat × va_E} (hk : ws[k]? = some q) : q.1 < H1.size := (h k q hk).lt
end VXS
/-! ===== END ===== -/
/-! ===== BEGIN methods with a table of their own: called by a name, returning or throwing ===== -/
section VXH
/-! vx_backW, vx_callVX, vx_callSX, vx_callVW, vx_runVW, vx_runVX, vx_runSX, vx_ofWH follow the same proofs as their sisters above (Free/Laws.lean, Shelf42/LK1.lean); vx_outP calls Shelf42/NT130.lean (outThrough). -/
section
variable {l : Launch} {R : Room} {p : Program} {e : Env} {below : List Frame} {s : State} {sargs : Array Value} {y : MethodName} {len W9 : Nat}
theorem vx_backW {ws : List Cond} {rm : Room} {Pc : Array Value → State → Prop} {Qc : Array Value → State → Outcome → State → Prop} {XC : String → State → State → Prop} {mc ms : Nat} {free : Addr → Prop} {bytes : ByteArray} {maxL : Nat} {ret : Option FieldType} {hh : List (Nat × Nat × Nat × Nat)}
    (hM : vx_Met l y ws rm Pc Qc XC mc ms free) (hblind : FrameBlind Pc) (hrc : rm.cells = mc) (hrs : rm.slots = ms)
    (hframes : rm.frames + 1 ≤ R.frames) (hlocals : W9 + (maxL + 11) + rm.locals ≤ R.locals)
    (hws : ∀ w ∈ ws, ∀ a' U, s.WarmedH U.vm → w.before a' U = true) (hcode : Cond.codeWith y bytes maxL ret hh ∈ ws) (hinit : ∀ a' U, s.WarmedH U.vm → (Cond.initialized y.cls).before a' U = true) :
    vx_Back l R p e below s sargs y len W9 (PreOf R mc ms Pc) (PostOf Qc mc ms free) (vx_Post XC mc ms free) := by
  intro m meth c A g ig mk a X hg hsize hdg hW hn hp
  have h1 : (headSpec ws rm).pre.before a A.U = true := atoms_intro fun w hw => hws w hw _ _ X.warmed
  have h2 : (Cond.codeWith y bytes maxL ret hh).before a A.U = true := hws _ hcode _ _ X.warmed
  have h3 : (Cond.initialized y.cls).before a A.U = true := hinit _ _ X.warmed
  have h4 : A.cells + (headSpec ws rm).room.cells ≤ R.cells := by rw [show (headSpec ws rm).room.cells = mc from hrc]; exact hp.1
  have h5 : A.slots + (headSpec ws rm).room.slots ≤ R.slots := by rw [show (headSpec ws rm).room.slots = ms from hrs]; exact hp.2.1
  have hPc : Pc a (A.U.calling g mk a) := hblind _ _ _ _ hp.2.2
  obtain ⟨U, Ls, c0, s0⟩ := A
  dsimp only [Pt.U, Pt.locs, Pt.cells, Pt.slots] at h1 h2 h3 h4 h5 X hn hPc ⊢
  obtain ⟨m9, methY, cY, hn9, hmY, hcY, -, hlY, -⟩ := Cond.codeWith_spec h2
  cases Option.some.inj (hn9.symm.trans hn)
  obtain ⟨kY, hkY, -⟩ := className_of_methodNamed hn
  have hinitY : kY.init = .initialized := Cond.initialized_spec (findClass_of_methodNamed hn) hkY h3
  have h : At U g.method c below := by rw [hg]; exact X.here
  have hlocals9 : W9 + (maxL + 11) + (headSpec ws rm).room.locals ≤ R.locals := hlocals
  have happ : (headSpec ws rm).appliesLoose y e.platform (U.calling g mk a) = true :=
    Spec.appliesLoose_calling (g := g) h hdg hn hkY hinitY
      (X.room_calling (g := g) (R' := (headSpec ws rm).room) hsize hmY hcY hframes (by rw [hlY]; omega) h4 h5) h1
  obtain ⟨mid, hmid⟩ := h.above
  have hfr : (U.setTop g).frames = (.java g :: mid) ++ below := by rw [State.frames_setTop' g h.top, hmid]; rfl
  obtain ⟨o, s₂, hsteps, -, hend, hq⟩ := Steps.callFree hM p X.admits X.cas X.clock (acts := []) hfr happ hPc trivial
  have hq' : vx_Q Qc XC mc ms free a (U.calling g mk a) o s₂ := hq
  rw [State.frames_setTop' g h.top] at hend
  obtain ⟨g₀, hg0⟩ := Option.isSome_iff_exists.mp h.top
  obtain ⟨r, hr⟩ := State.topJava?_eq_some.mp hg0
  have hr' : (({ U with heap := s₂.heap, slotsUsed := s₂.slotsUsed } : State).setVm s₂.vm).frames = .java g₀ :: r := hr
  rcases hq' with ⟨hqc, L, hfe, hL⟩ | ⟨q, rfl, E, ce, L, hx, hce, hcv, hcl, hW₂, hsm, hL⟩
  · obtain ⟨⟨v, rfl⟩, hW₂, e2, q2, q3, q4, q5, q6⟩ := id hfe
    have e3 : s₂ = ({ (U.calling g mk a).setFrames s₂.frames with heap := s₂.heap, slotsUsed := s₂.slotsUsed } : State).setVm s₂.vm := by
      have : s₂ = ({ s₂ with vm := (U.calling g mk a).vm } : State).setVm s₂.vm := rfl
      rw [e2] at this
      exact this
    obtain ⟨c₂, i₂, len₂, hc₂, hd₂, hf₂⟩ := hend
    have hW' : U.WarmedH s₂.vm := hW₂
    have hcc : c₂ = c := by
      have h1 : s₂.code? g.method = U.code? g.method := by
        rw [State.code?_eq, State.code?_eq, hW'.alike.method?]
      exact Option.some.inj (hc₂.symm.trans (h1.trans h.code))
    subst hcc
    have hlen : len₂ = len := by rw [hdg] at hd₂; cases hd₂; rfl
    subst hlen
    have hs₂ : s₂ = (({ U with heap := s₂.heap, slotsUsed := s₂.slotsUsed } : State).setVm s₂.vm).setTop { g with pc := g.pc + len₂, stack := v.toList ++ g.stack } := by
      refine e3.trans ?_
      rw [hf₂, State.calling_eq h.top, State.setFrames_setFrames, State.setTop_of_frames _ hr', hr]
      rfl
    have hsame : U.sameButNew ({ U with heap := s₂.heap, slotsUsed := s₂.slotsUsed } : State) L mc ms := by
      refine ⟨?_, q2, q3, q4, q5, q6⟩
      obtain ⟨t, ht, -⟩ := State.frames_cons hr
      show ({ U with heap := s₂.heap, slotsUsed := s₂.slotsUsed } : State) = { U.setFrames U.frames with heap := s₂.heap, slotsUsed := s₂.slotsUsed }
      rw [State.setFrames_self ht]
    subst hg
    refine Or.inl ⟨v, ⟨(({ U with heap := s₂.heap, slotsUsed := s₂.slotsUsed } : State).setVm s₂.vm), Ls ++ L, c0 + mc, s0 + ms⟩,
      ⟨X.admits, X.cas, X.clock, X.frames, X.room, X.hears, X.method, X.code, (X.here.setHeapUsed s₂.heap s₂.slotsUsed).setVm hW'.alike, X.tail, State.WarmedH.trans X.warmed hW', X.limits, X.bytes, X.same.trans (hsame.setVm s.vm)⟩,
      ⟨g, mk, s₂, L, rfl, rfl, hqc, rfl, hL, rfl, rfl⟩, ?_⟩
    show Steps p.tables e below _ ((({ U with heap := s₂.heap, slotsUsed := s₂.slotsUsed } : State).setVm s₂.vm).setTop { g with pc := g.pc + len₂, stack := v.toList ++ g.stack })
    rw [← hs₂]
    exact hsteps
  · obtain ⟨e2, q2, q3, q4, q5, q6⟩ := id hsm
    have e3 : s₂ = ({ (U.calling g mk a).setFrames s₂.frames with heap := s₂.heap, slotsUsed := s₂.slotsUsed } : State).setVm s₂.vm := by
      have : s₂ = ({ s₂ with vm := (U.calling g mk a).vm } : State).setVm s₂.vm := rfl
      rw [e2] at this
      exact this
    have hf₂ : s₂.frames = .throwing q :: .java g :: U.frames.tail := hend
    have hW' : U.WarmedH s₂.vm := hW₂
    have hs₂ : s₂ = ((({ U with heap := s₂.heap, slotsUsed := s₂.slotsUsed } : State).setVm s₂.vm).setTop g).pushFrame (.throwing q) := by
      refine e3.trans ?_
      rw [hf₂, State.calling_eq h.top, State.setFrames_setFrames, State.pushFrame, State.frames_setTop _ hr', State.setTop_of_frames _ hr', State.setFrames_setFrames, hr]
      rfl
    have hsame : U.sameButNew ({ U with heap := s₂.heap, slotsUsed := s₂.slotsUsed } : State) L mc ms := by
      refine ⟨?_, q2, q3, q4, q5, q6⟩
      obtain ⟨t, ht, -⟩ := State.frames_cons hr
      show ({ U with heap := s₂.heap, slotsUsed := s₂.slotsUsed } : State) = { U.setFrames U.frames with heap := s₂.heap, slotsUsed := s₂.slotsUsed }
      rw [State.setFrames_self ht]
    subst hg
    refine Or.inr ⟨q, ⟨(({ U with heap := s₂.heap, slotsUsed := s₂.slotsUsed } : State).setVm s₂.vm), Ls ++ L, c0 + mc, s0 + ms⟩,
      ⟨X.admits, X.cas, X.clock, X.frames, X.room, X.hears, X.method, X.code, (X.here.setHeapUsed s₂.heap s₂.slotsUsed).setVm hW'.alike, X.tail, State.WarmedH.trans X.warmed hW', X.limits, X.bytes, X.same.trans (hsame.setVm s.vm)⟩,
      ⟨g, mk, s₂, L, E, ce, rfl, rfl, hx, hce, hcv, hcl, rfl, hL, rfl, rfl⟩, ?_⟩
    show Steps p.tables e below _ (((({ U with heap := s₂.heap, slotsUsed := s₂.slotsUsed } : State).setVm s₂.vm).setTop g).pushFrame (.throwing q))
    rw [← hs₂]
    exact hsteps
end
variable {p : Program} {l : Launch} {e : Env} {R : Room} {s : State} {m : MethodId} {args : Array Value} {below : List Frame} {meth : Method} {c : Code} {T : State} {H : Heap} {locs : List Loc} {cells slots : Nat}
theorem vx_callVX (X : Stand p l e R s m args below meth c T locs cells slots) (hexec : p.tables.exec = Jvm.exec) {own C : String} {index : Nat} {y : MethodName} {bytes : ByteArray} {maxL : Nat} {ret : Option FieldType} {hh : List (Nat × Nat × Nat × Nat)}
    (hown : s.vm.findClass own = some m.cls) (hlink : (Cond.methodLink own index y).before args s = true) (hinst : (Cond.instanceMethod y).before args s = true) (hsel : (Cond.selects C y y).before args s = true)
    (hcode : (Cond.codeWith y bytes maxL ret hh).before args s = true) (hy : y.cls ≠ "java/lang/invoke/MethodHandle" ∧ y.cls ≠ "java/lang/invoke/VarHandle")
    {W9 : Nat} {Pre : Pt → Array Value → Prop} {Post : Pt → Array Value → Option Value → Pt → Prop} {PostX : Pt → Array Value → Addr → Pt → Prop} (hK : vx_Back l R p e below s args y 3 W9 Pre Post PostX)
    {b : Addr} {cellB : Cell} (hcell : T.heap[b]? = some cellB) (hobj : cellB.vm.isStatics = false) (hcls : s.vm.findClass C = some cellB.cls)
    {g : JFrame} (hg : g.method = m) (hsize : g.locals.size = c.maxLocals) {argsL rest : List Value} (hlen : ∀ sig, parseMethodDescriptor y.desc = some sig → argsL.length = sig.parameters.length)
    (hstack : g.stack = argsL.reverse ++ .ref b :: rest) (hW : 2 * g.monitorRoom + (rest.map fun v => v.category).sum ≤ W9) (hdg : decode c.code g.pc = .ok (.invokevirtual index, 3))
    (hpre : ∀ vm₁, s.WarmedH vm₁ → Pre ⟨T.setVm vm₁, locs, cells, slots⟩ (Value.ref b :: argsL).toArray) :
    (∃ (v : Option Value) (vm₁ : Vm) (B : Pt), s.WarmedH vm₁ ∧ Stand p l e R s m args below meth c B.U B.locs B.cells B.slots ∧ Post ⟨T.setVm vm₁, locs, cells, slots⟩ (Value.ref b :: argsL).toArray v B ∧
      ∀ target, Steps p.tables e below (B.U.setTop { g with pc := g.pc + 3, stack := v.toList ++ rest }) target → Steps p.tables e below (T.setTop g) target) ∨
    (∃ (q : Addr) (vm₁ : Vm) (B : Pt), s.WarmedH vm₁ ∧ Stand p l e R s m args below meth c B.U B.locs B.cells B.slots ∧ PostX ⟨T.setVm vm₁, locs, cells, slots⟩ (Value.ref b :: argsL).toArray q B ∧
      Steps p.tables e below (T.setTop g) ((B.U.setTop { g with stack := rest }).pushFrame (.throwing q))) := by
  obtain ⟨mk, methM, hnamed, hmethM, hstM, habM⟩ := Cond.instanceMethod_spec hinst
  obtain ⟨m8, methM', cM, hn8, hmethM', -, -, -, -, -, -, hsigM⟩ := Cond.codeWith_spec hcode
  cases Option.some.inj (hn8.symm.trans hnamed)
  cases hmethM.symm.trans hmethM'
  obtain ⟨c2, r2, m2, q1, q2, q3, q4, kP, hkP, hkPi⟩ := Cond.selects_spec hsel
  cases hcls.symm.trans q1
  cases (State.methodFound?_of_named hnamed hy).symm.trans q2
  cases hnamed.symm.trans q3
  have hselP : selectMethod e.platform s.vm cellB.cls mk = .method mk := by rw [Launch.admits_selectMethod X.admits]; exact q4
  obtain ⟨vm₁, X₁, hstep₁⟩ := X.invokevirtual hexec hown hlink hnamed hmethM hstM hkP hkPi hy (a := b) (cell := cellB) hcell
    (fun z h => by rw [h] at hobj; cases hobj) hselP hmethM habM hkP hkPi (g := g) hg (argsL := argsL) (rest := rest) (hlen _ hsigM) hstack hdg
  rcases hK m meth c ⟨T.setVm vm₁, locs, cells, slots⟩ { g with stack := rest } (.invokevirtual index) mk (Value.ref b :: argsL).toArray X₁ hg hsize hdg hW (X₁.named hnamed) (hpre vm₁ X₁.warmed) with ⟨v, B, X', hpost, hsteps⟩ | ⟨q, B, X', hpost, hsteps⟩
  · exact Or.inl ⟨v, vm₁, B, X₁.warmed, X', hpost, fun target h => hstep₁ _ fun acts => by rw [doInvoke_state]; exact hsteps.trans h⟩
  · exact Or.inr ⟨q, vm₁, B, X₁.warmed, X', hpost, hstep₁ _ fun acts => by rw [doInvoke_state]; exact hsteps⟩
theorem vx_callSX (X : Stand p l e R s m args below meth c T locs cells slots) (hexec : p.tables.exec = Jvm.exec) {own : String} {index : Nat} {y : MethodName} {bytes : ByteArray} {maxL : Nat} {ret : Option FieldType} {hh : List (Nat × Nat × Nat × Nat)}
    (hown : s.vm.findClass own = some m.cls) (hlink : (Cond.methodLink own index y).before args s = true) (hstat : (Cond.static y).before args s = true) (hinit : (Cond.initialized y.cls).before args s = true)
    (hcode : (Cond.codeWith y bytes maxL ret hh).before args s = true) (hy : y.cls ≠ "java/lang/invoke/MethodHandle" ∧ y.cls ≠ "java/lang/invoke/VarHandle")
    {W9 : Nat} {Pre : Pt → Array Value → Prop} {Post : Pt → Array Value → Option Value → Pt → Prop} {PostX : Pt → Array Value → Addr → Pt → Prop} (hK : vx_Back l R p e below s args y 3 W9 Pre Post PostX)
    {g : JFrame} (hg : g.method = m) (hsize : g.locals.size = c.maxLocals) {argsL rest : List Value} (hlen : ∀ sig, parseMethodDescriptor y.desc = some sig → argsL.length = sig.parameters.length)
    (hstack : g.stack = argsL.reverse ++ rest) (hW : 2 * g.monitorRoom + (rest.map fun v => v.category).sum ≤ W9) (hdg : decode c.code g.pc = .ok (.invokestatic index, 3))
    (hpre : ∀ vm₁, s.WarmedH vm₁ → Pre ⟨T.setVm vm₁, locs, cells, slots⟩ argsL.toArray) :
    (∃ (v : Option Value) (vm₁ : Vm) (B : Pt), s.WarmedH vm₁ ∧ Stand p l e R s m args below meth c B.U B.locs B.cells B.slots ∧ Post ⟨T.setVm vm₁, locs, cells, slots⟩ argsL.toArray v B ∧
      ∀ target, Steps p.tables e below (B.U.setTop { g with pc := g.pc + 3, stack := v.toList ++ rest }) target → Steps p.tables e below (T.setTop g) target) ∨
    (∃ (q : Addr) (vm₁ : Vm) (B : Pt), s.WarmedH vm₁ ∧ Stand p l e R s m args below meth c B.U B.locs B.cells B.slots ∧ PostX ⟨T.setVm vm₁, locs, cells, slots⟩ argsL.toArray q B ∧
      Steps p.tables e below (T.setTop g) ((B.U.setTop { g with stack := rest }).pushFrame (.throwing q))) := by
  obtain ⟨mk, methM, cM, hnamed, hmethM, -, -, -, -, -, -, hsigM⟩ := Cond.codeWith_spec hcode
  have hstatic : methM.isStatic = true := Cond.static_spec hnamed hmethM hstat
  obtain ⟨kP, hkP, -⟩ := className_of_methodNamed hnamed
  have hinitP : kP.init = .initialized := Cond.initialized_spec (findClass_of_methodNamed hnamed) hkP hinit
  obtain ⟨vm₁, X₁, hstep₁⟩ := X.invokestatic hexec hown hlink hnamed hmethM hstatic hkP hinitP hy (g := g) hg (argsL := argsL) (rest := rest) (hlen _ hsigM) hstack hdg
  rcases hK m meth c ⟨T.setVm vm₁, locs, cells, slots⟩ { g with stack := rest } (.invokestatic index) mk argsL.toArray X₁ hg hsize hdg hW (X₁.named hnamed) (hpre vm₁ X₁.warmed) with ⟨v, B, X', hpost, hsteps⟩ | ⟨q, B, X', hpost, hsteps⟩
  · exact Or.inl ⟨v, vm₁, B, X₁.warmed, X', hpost, fun target h => hstep₁ _ fun acts => by rw [doInvoke_state]; exact hsteps.trans h⟩
  · exact Or.inr ⟨q, vm₁, B, X₁.warmed, X', hpost, hstep₁ _ fun acts => by rw [doInvoke_state]; exact hsteps⟩
theorem vx_callVW (X : Stand p l e R s m args below meth c T locs cells slots) (hexec : p.tables.exec = Jvm.exec) {own C : String} {index : Nat} {y : MethodName} {bytes : ByteArray} {maxL : Nat} {ret : Option FieldType} {hh : List (Nat × Nat × Nat × Nat)}
    (hown : s.vm.findClass own = some m.cls) (hlink : (Cond.methodLink own index y).before args s = true) (hinst : (Cond.instanceMethod y).before args s = true) (hsel : (Cond.selects C y y).before args s = true)
    (hcode : (Cond.codeWith y bytes maxL ret hh).before args s = true) (hy : y.cls ≠ "java/lang/invoke/MethodHandle" ∧ y.cls ≠ "java/lang/invoke/VarHandle")
    {W9 : Nat} {Pre : Pt → Array Value → Prop} {Post : Pt → Array Value → Option Value → Pt → Prop} (hK : Back l R p e below s args y 3 W9 Pre Post)
    {b : Addr} {cellB : Cell} (hcell : T.heap[b]? = some cellB) (hobj : cellB.vm.isStatics = false) (hcls : s.vm.findClass C = some cellB.cls)
    {g : JFrame} (hg : g.method = m) (hsize : g.locals.size = c.maxLocals) {argsL rest : List Value} (hlen : ∀ sig, parseMethodDescriptor y.desc = some sig → argsL.length = sig.parameters.length)
    (hstack : g.stack = argsL.reverse ++ .ref b :: rest) (hW : 2 * g.monitorRoom + (rest.map fun v => v.category).sum ≤ W9) (hdg : decode c.code g.pc = .ok (.invokevirtual index, 3))
    (hpre : ∀ vm₁, s.WarmedH vm₁ → Pre ⟨T.setVm vm₁, locs, cells, slots⟩ (Value.ref b :: argsL).toArray) :
    ∃ (v : Option Value) (vm₁ : Vm) (B : Pt), s.WarmedH vm₁ ∧ Stand p l e R s m args below meth c B.U B.locs B.cells B.slots ∧ Post ⟨T.setVm vm₁, locs, cells, slots⟩ (Value.ref b :: argsL).toArray v B ∧
      ∀ target, Steps p.tables e below (B.U.setTop { g with pc := g.pc + 3, stack := v.toList ++ rest }) target → Steps p.tables e below (T.setTop g) target := by
  obtain ⟨mk, methM, hnamed, hmethM, hstM, habM⟩ := Cond.instanceMethod_spec hinst
  obtain ⟨m8, methM', cM, hn8, hmethM', -, -, -, -, -, -, hsigM⟩ := Cond.codeWith_spec hcode
  cases Option.some.inj (hn8.symm.trans hnamed)
  cases hmethM.symm.trans hmethM'
  obtain ⟨c2, r2, m2, q1, q2, q3, q4, kP, hkP, hkPi⟩ := Cond.selects_spec hsel
  cases hcls.symm.trans q1
  cases (State.methodFound?_of_named hnamed hy).symm.trans q2
  cases hnamed.symm.trans q3
  have hselP : selectMethod e.platform s.vm cellB.cls mk = .method mk := by rw [Launch.admits_selectMethod X.admits]; exact q4
  obtain ⟨vm₁, X₁, hstep₁⟩ := X.invokevirtual hexec hown hlink hnamed hmethM hstM hkP hkPi hy (a := b) (cell := cellB) hcell
    (fun z h => by rw [h] at hobj; cases hobj) hselP hmethM habM hkP hkPi (g := g) hg (argsL := argsL) (rest := rest) (hlen _ hsigM) hstack hdg
  obtain ⟨v, B, X', hpost, hsteps⟩ := hK m meth c ⟨T.setVm vm₁, locs, cells, slots⟩ { g with stack := rest } (.invokevirtual index) mk (Value.ref b :: argsL).toArray X₁ hg hsize hdg hW (X₁.named hnamed) (hpre vm₁ X₁.warmed)
  exact ⟨v, vm₁, B, X₁.warmed, X', hpost, fun target h => hstep₁ _ fun acts => by rw [doInvoke_state]; exact hsteps.trans h⟩
abbrev vx_CVW (R : Room) (s : State) (args : Array Value) (own C : String) (index : Nat) (y : MethodName) (bytes : ByteArray) (maxL : Nat) (ret : Option FieldType) (hh : List (Nat × Nat × Nat × Nat)) (ws : List Cond) (rm : Room) (mc ms n : Nat) : Prop :=
  (rm.cells = mc ∧ rm.slots = ms ∧ rm.frames + 1 ≤ R.frames ∧ 8 + (maxL + 11) + rm.locals ≤ R.locals ∧ (∀ w ∈ ws, ∀ (a' : Array Value) (U : State), s.WarmedH U.vm → w.before a' U = true) ∧ Cond.codeWith y bytes maxL ret hh ∈ ws) ∧
  (Cond.codeWith y bytes maxL ret hh).before args s = true ∧ (Cond.initialized y.cls).before args s = true ∧ (y.cls ≠ "java/lang/invoke/MethodHandle" ∧ y.cls ≠ "java/lang/invoke/VarHandle") ∧
  (∀ sig, parseMethodDescriptor y.desc = some sig → n = sig.parameters.length) ∧ (Cond.methodLink own index y).before args s = true ∧ (Cond.instanceMethod y).before args s = true ∧ (Cond.selects C y y).before args s = true
theorem vx_cwVW {own C : String} {index maxL mc ms : Nat} {y : MethodName} {bytes : ByteArray} {ret : Option FieldType} {hh : List (Nat × Nat × Nat × Nat)} {Ts ws ws' : List Cond} {rm : Room} (n : Nat) (ht : ∀ w ∈ Ts, w.before args s = true) (hT : GoodIn Ts (wsV own index C y ws)) (hw : ws = Cond.codeWith y bytes maxL ret hh :: ws') (hrc : rm.cells = mc) (hrs : rm.slots = ms)
    (hd : y.cls = C ∧ y.cls ≠ "java/lang/invoke/MethodHandle" ∧ y.cls ≠ "java/lang/invoke/VarHandle" ∧ (parseMethodDescriptor y.desc).map (fun d => d.parameters.length) = some n) (hR : rm.frames + 1 ≤ R.frames ∧ 8 + (maxL + 11) + rm.locals ≤ R.locals) :
    vx_CVW R s args own C index y bytes maxL ret hh ws rm mc ms n := by
  obtain ⟨hC, hd⟩ := hd
  subst hC
  have ok : ∀ w ∈ wsV own index y.cls y ws, w.before args s = true := fun w h => ht w (hT w h).1
  have hG : GoodIn Ts ws := fun w h => hT w (by unfold wsV; exact List.mem_append_right _ h)
  have hc : Cond.codeWith y bytes maxL ret hh ∈ ws := by rw [hw]; exact List.mem_cons_self
  refine ⟨⟨hrc, hrs, hR.1, hR.2, pay_in ht hG, hc⟩, ht _ (hG _ hc).1, ok _ (by simp [wsV]), ⟨hd.1, hd.2.1⟩, fun sig h => ?_, ok _ (by simp [wsV]), ok _ (by simp [wsV]), ok _ (by simp [wsV])⟩
  have h2 := hd.2.2
  rw [h] at h2
  exact (Option.some.inj h2).symm
theorem vx_runVW {y : MethodName} {bytes cc : ByteArray} {maxL nL mc ms n index : Nat} {ret : Option FieldType} {hh : List (Nat × Nat × Nat × Nat)} {ws : List Cond} {rm : Room} {Pc : Array Value → State → Prop} {Qc : Array Value → State → Outcome → State → Prop} {free : Addr → Prop} {Ts : List Cond} {own C : String} {b : Addr} {As rest : List Value} {g : JFrame}
    (S : CallFix p m c cc nL s args Ts own) (hM : Met l y ws rm Pc Qc mc ms free) (cw : vx_CVW R s args own C index y bytes maxL ret hh ws rm mc ms n) (hp : PreV s H C b Pc As)
    (hg : g.method = m) (hn : As.length = n) (hsize : g.locals.size = nL) (hstack : g.stack = As.reverse ++ .ref b :: rest) (hW : 2 * g.monitorRoom + (rest.map fun v => v.category).sum ≤ 8) (hdg : decode cc g.pc = .ok (.invokevirtual index, 3)) (hf : cells + mc ≤ R.cells ∧ slots + ms ≤ R.slots) :
    va_Run p l e R s m args below meth c H locs cells slots mc ms g rest (Qc (Value.ref b :: As).toArray) free := by
  obtain ⟨⟨hrc, hrs, hfr, hlo, hws, hcw⟩, hcode, hini, hy, hlen, hl, hin, hse⟩ := cw
  have hK : Back l R p e below s args y 3 8 (PreOf R mc ms Pc) (PostOf Qc mc ms free) := va_backW (hh := hh) (bytes := bytes) (maxL := maxL) (ret := ret) hM hp.1 hrc hrs hfr hlo hws hcw (fun a' U hW => word_at hW (Or.inl (by first | rfl | simp [Cond.onTables, Cond.keeps, Cond.steady])) hini)
  obtain ⟨hx, hb, hml, ho, -⟩ := S
  obtain ⟨-, ⟨cellB, hcB, hoB, hclB⟩, hPc⟩ := hp
  intro T hT X
  obtain ⟨v, vm₁, ⟨U', l2, c2, s2⟩, hW₁, X', ⟨g', mk, t, L, e1, e2, hq, h1, hL, h2, h3⟩, st⟩ := vx_callVW X hx (C := C) (hh := hh) (bytes := bytes) (maxL := maxL) (ret := ret) ho hl hin hse hcode hy hK (by rw [hT]; exact hcB) hoB hclB hg (hsize.trans hml.symm) (argsL := As) (rest := rest) (fun sig h => hn.trans (hlen sig h)) hstack hW (by rw [hb]; exact hdg)
    (fun vm₁ hW₁ => ⟨hf.1, hf.2, hPc (T.setVm vm₁) hT hW₁⟩)
  dsimp only [Pt.U, Pt.locs, Pt.cells, Pt.slots] at X' e1 e2 h1 h2 h3 st
  subst h1; subst h2; subst h3
  exact ⟨v, (T.setVm vm₁).calling g' mk (Value.ref b :: As).toArray, t, U', L, hT, X', hL, e1, e2, hq, st⟩
section
variable {y : MethodName} {bytes cc : ByteArray} {maxL nL mc ms n index : Nat} {ret : Option FieldType} {ws : List Cond} {rm : Room} {Pc : Array Value → State → Prop} {Qc : Array Value → State → Outcome → State → Prop} {XC : String → State → State → Prop} {free : Addr → Prop} {Ts : List Cond} {own C : String} {b : Addr} {As rest : List Value} {g : JFrame}
theorem vx_runVX {hh : List (Nat × Nat × Nat × Nat)} (S : CallFix p m c cc nL s args Ts own) (hM : vx_Met l y ws rm Pc Qc XC mc ms free) (cw : vx_CVW R s args own C index y bytes maxL ret hh ws rm mc ms n) (hp : PreV s H C b Pc As)
    (hg : g.method = m) (hn : As.length = n) (hsize : g.locals.size = nL) (hstack : g.stack = As.reverse ++ .ref b :: rest) (hW : 2 * g.monitorRoom + (rest.map fun v => v.category).sum ≤ 8) (hdg : decode cc g.pc = .ok (.invokevirtual index, 3)) (hf : cells + mc ≤ R.cells ∧ slots + ms ≤ R.slots) :
    vx_Run p l e R s m args below meth c H locs cells slots mc ms g rest (Qc (Value.ref b :: As).toArray) XC free := by
  obtain ⟨⟨hrc, hrs, hfr, hlo, hws, hcw⟩, hcode, hini, hy, hlen, hl, hin, hse⟩ := cw
  have hK : vx_Back l R p e below s args y 3 8 (PreOf R mc ms Pc) (PostOf Qc mc ms free) (vx_Post XC mc ms free) := vx_backW (hh := hh) (bytes := bytes) (maxL := maxL) (ret := ret) hM hp.1 hrc hrs hfr hlo hws hcw (fun a' U hW => word_at hW (Or.inl (by first | rfl | simp [Cond.onTables, Cond.keeps, Cond.steady])) hini)
  obtain ⟨hx, hb, hml, ho, -⟩ := S
  obtain ⟨-, ⟨cellB, hcB, hoB, hclB⟩, hPc⟩ := hp
  intro T hT X
  rcases vx_callVX X hx (C := C) (hh := hh) (bytes := bytes) (maxL := maxL) (ret := ret) ho hl hin hse hcode hy hK (by rw [hT]; exact hcB) hoB hclB hg (hsize.trans hml.symm) (argsL := As) (rest := rest) (fun sig h => hn.trans (hlen sig h)) hstack hW (by rw [hb]; exact hdg)
    (fun vm₁ hW₁ => ⟨hf.1, hf.2, hPc (T.setVm vm₁) hT hW₁⟩) with ⟨v, vm₁, ⟨U', l2, c2, s2⟩, hW₁, X', ⟨g', mk, t, L, e1, e2, hq, h1, hL, h2, h3⟩, st⟩ | ⟨q, vm₁, ⟨U', l2, c2, s2⟩, hW₁, X', ⟨g', mk, t, L, E, ce, e1, e2, hq, hce, hcv, hcl, h1, hL, h2, h3⟩, st⟩
  · dsimp only [Pt.U, Pt.locs, Pt.cells, Pt.slots] at X' e1 e2 h1 h2 h3 st
    subst h1; subst h2; subst h3
    exact Or.inl ⟨v, (T.setVm vm₁).calling g' mk (Value.ref b :: As).toArray, t, U', L, hT, X', hL, e1, e2, hq, st⟩
  · dsimp only [Pt.U, Pt.locs, Pt.cells, Pt.slots] at X' e1 e2 h1 h2 h3 st hcl
    subst h1; subst h2; subst h3
    exact Or.inr ⟨q, (T.setVm vm₁).calling g' mk (Value.ref b :: As).toArray, t, U', L, E, ce, hT, X', hL, e1, e2, hq, hce, hcv, vx_cls hW₁ hcl, st⟩
theorem vx_runSX {hh : List (Nat × Nat × Nat × Nat)} (S : CallFix p m c cc nL s args Ts own) (hM : vx_Met l y ws rm Pc Qc XC mc ms free) (cw : vx_CSW R s args own index y bytes maxL ret hh ws rm mc ms n) (hp : PreS s H Pc As)
    (hg : g.method = m) (hn : As.length = n) (hsize : g.locals.size = nL) (hstack : g.stack = As.reverse ++ rest) (hW : 2 * g.monitorRoom + (rest.map fun v => v.category).sum ≤ 8) (hdg : decode cc g.pc = .ok (.invokestatic index, 3)) (hf : cells + mc ≤ R.cells ∧ slots + ms ≤ R.slots) :
    vx_Run p l e R s m args below meth c H locs cells slots mc ms g rest (Qc As.toArray) XC free := by
  obtain ⟨⟨hrc, hrs, hfr, hlo, hws, hcw⟩, hcode, hini, hy, hlen, hl, hstt⟩ := cw
  have hK : vx_Back l R p e below s args y 3 8 (PreOf R mc ms Pc) (PostOf Qc mc ms free) (vx_Post XC mc ms free) := vx_backW (hh := hh) (bytes := bytes) (maxL := maxL) (ret := ret) hM hp.1 hrc hrs hfr hlo hws hcw (fun a' U hW => word_at hW (Or.inl (by first | rfl | simp [Cond.onTables, Cond.keeps, Cond.steady])) hini)
  obtain ⟨hx, hb, hml, ho, -⟩ := S
  intro T hT X
  rcases vx_callSX X hx (hh := hh) (bytes := bytes) (maxL := maxL) (ret := ret) ho hl hstt hini hcode hy hK hg (hsize.trans hml.symm) (argsL := As) (rest := rest) (fun sig h => hn.trans (hlen sig h)) hstack hW (by rw [hb]; exact hdg)
    (fun vm₁ hW₁ => ⟨hf.1, hf.2, hp.2 (T.setVm vm₁) hT hW₁⟩) with ⟨v, vm₁, ⟨U', l2, c2, s2⟩, hW₁, X', ⟨g', mk, t, L, e1, e2, hq, h1, hL, h2, h3⟩, st⟩ | ⟨q, vm₁, ⟨U', l2, c2, s2⟩, hW₁, X', ⟨g', mk, t, L, E, ce, e1, e2, hq, hce, hcv, hcl, h1, hL, h2, h3⟩, st⟩
  · dsimp only [Pt.U, Pt.locs, Pt.cells, Pt.slots] at X' e1 e2 h1 h2 h3 st
    subst h1; subst h2; subst h3
    exact Or.inl ⟨v, (T.setVm vm₁).calling g' mk As.toArray, t, U', L, hT, X', hL, e1, e2, hq, st⟩
  · dsimp only [Pt.U, Pt.locs, Pt.cells, Pt.slots] at X' e1 e2 h1 h2 h3 st hcl
    subst h1; subst h2; subst h3
    exact Or.inr ⟨q, (T.setVm vm₁).calling g' mk As.toArray, t, U', L, E, ce, hT, X', hL, e1, e2, hq, hce, hcv, vx_cls hW₁ hcl, st⟩
end
end VXH
theorem vx_ofWH {l : Launch} {y : MethodName} {ws ws' : List Cond} {rm : Room} {Pc : Array Value → State → Prop} {Qc : Array Value → State → Outcome → State → Prop} {XC : String → State → State → Prop} {mc ms : Nat} {free : Addr → Prop} {cc : ByteArray} {maxL : Nat} {ret : Option FieldType} {hh : List (Nat × Nat × Nat × Nat)}
    (hy : plainName y.cls = true) (hw : ws = Cond.codeWith y cc maxL ret hh :: ws')
    (body : ∀ p e s m args below meth c s₁, BodyLoose p l y (headSpec ws rm) cc maxL ret e s m args below meth c s₁ → c.maxLocals = maxL → Pc args s →
      W p l e (headSpec ws rm).room s m args below meth c s.heap [] 0 0 (vx_MQ below Qc XC args s mc ms free) (entryFrame m args maxL)) : vx_Met l y ws rm Pc Qc XC mc ms free := by
  refine MetFree.of_bodyS (code := cc) (maxLocals := maxL) (ret := ret) hy ?_ ?_
  · intro args s m h hn
    obtain ⟨m9, meth, c, hn9, h1, h2, h3, h4, -, h5, h6, -⟩ := Cond.codeWith_spec (atoms_spec (ws := ws) h _ (by rw [hw]; exact List.mem_cons_self))
    cases hn.symm.trans hn9
    exact ⟨meth, c, h1, h2, h3, h4, h5, h6⟩
  · intro p e s m args below meth c s₁ B hml hP _
    have hh0 : s₁.heap = s.heap := by rw [B.state]; rfl
    obtain ⟨t, a1, o, b1, b2, b3⟩ := body p e s m args below meth c s₁ B hml hP s₁ hh0 (Stand.of_body B)
    exact ⟨t, o, a1, b1, b2, b3⟩
/-! ===== END ===== -/

/-! ===== BEGIN printed: names, fields, word lists, decode rows ===== -/
def RX0 : String := "PotLabels$Bureau"
def TX0 : u_T := fun k => match k with
  | 0 => ("PotLabels$Bureau", "colours", "[I", true)
  | 1 => ("PotLabels$Bureau", "labels", "[I", true)
  | 2 => ("PotLabels$Bureau", "kinds", "[I", true)
  | 3 => ("PotLabels$Bureau", "sharpnesses", "[I", true)
  | 4 => ("PotLabels$Bureau", "lenders", "[I", true)
  | 5 => ("PotLabels$Bureau", "figures", "[I", true)
  | 6 => ("PotLabels$Bureau", "grounds", "[I", true)
  | 7 => ("PotLabels$Bureau", "charts", "I", false)
  | 8 => ("PotLabels$Bureau", "corrections", "I", false)
  | _ => ("PotLabels$Bureau", "refusals", "I", false)
def tyX0 : Nat → FieldType := fun k => match k with
  | 0 => .array .int
  | 1 => .array .int
  | 2 => .array .int
  | 3 => .array .int
  | 4 => .array .int
  | 5 => .array .int
  | 6 => .array .int
  | 7 => .int
  | 8 => .int
  | _ => .int
abbrev wsX00 : List Cond := u_ws RX0 TX0 10
theorem nmX0 : ∀ a, a < 10 → ∀ b, b < 10 → a ≠ b → (TX0 a).2.1 ≠ (TX0 b).2.1 := by decide +kernel
theorem tyX0_ok : ∀ k, k < 10 → parseFieldDescriptor (TX0 k).2.2.1 = some (tyX0 k) := by decide +kernel
abbrev cX0_init : ByteArray := prog_2_method_1_code
def yX0_init : MethodName := ⟨RX0, "<init>", "()V"⟩
abbrev cX0_copyFrom : ByteArray := prog_2_method_2_code
def yX0_copyFrom : MethodName := ⟨RX0, "copyFrom", "(LPotLabels$Bureau;)V"⟩
abbrev cX0_tells : ByteArray := prog_2_method_3_code
def yX0_tells : MethodName := ⟨RX0, "tells", "(III)Z"⟩
abbrev cX0_tellsColours : ByteArray := prog_2_method_4_code
def yX0_tellsColours : MethodName := ⟨RX0, "tellsColours", "(IIII)Z"⟩
abbrev cX0_pairsTold : ByteArray := prog_2_method_5_code
def yX0_pairsTold : MethodName := ⟨RX0, "pairsTold", "(II)I"⟩
abbrev cX0_pairsToldByNobody : ByteArray := prog_2_method_6_code
def yX0_pairsToldByNobody : MethodName := ⟨RX0, "pairsToldByNobody", "()I"⟩
abbrev cX0_tellersOfPair : ByteArray := prog_2_method_7_code
def yX0_tellersOfPair : MethodName := ⟨RX0, "tellersOfPair", "(II)I"⟩
abbrev cX0_tellersOf : ByteArray := prog_2_method_8_code
def yX0_tellersOf : MethodName := ⟨RX0, "tellersOf", "(I)I"⟩
abbrev cX0_labelled : ByteArray := prog_2_method_9_code
def yX0_labelled : MethodName := ⟨RX0, "labelled", "()I"⟩
abbrev cX0_unlikeLabels : ByteArray := prog_2_method_10_code
def yX0_unlikeLabels : MethodName := ⟨RX0, "unlikeLabels", "()I"⟩
abbrev cX0_wrongPairs : ByteArray := prog_2_method_11_code
def yX0_wrongPairs : MethodName := ⟨RX0, "wrongPairs", "(I)I"⟩
abbrev cX0_paintersServed : ByteArray := prog_2_method_12_code
def yX0_paintersServed : MethodName := ⟨RX0, "paintersServed", "()I"⟩
abbrev cX0_labelInOrder : ByteArray := prog_2_method_13_code
def yX0_labelInOrder : MethodName := ⟨RX0, "labelInOrder", "(I)V"⟩
abbrev cX0_leastOutside : ByteArray := prog_2_method_14_code
def yX0_leastOutside : MethodName := ⟨RX0, "leastOutside", "(I)I"⟩
abbrev cX0_addChart : ByteArray := prog_2_method_15_code
def yX0_addChart : MethodName := ⟨RX0, "addChart", "(II)I"⟩
abbrev cX0_removeChart : ByteArray := prog_2_method_16_code
def yX0_removeChart : MethodName := ⟨RX0, "removeChart", "(I)V"⟩
abbrev cX0_readersOf : ByteArray := prog_2_method_17_code
def yX0_readersOf : MethodName := ⟨RX0, "readersOf", "(I)I"⟩
abbrev cX0_chartsRead : ByteArray := prog_2_method_18_code
def yX0_chartsRead : MethodName := ⟨RX0, "chartsRead", "(I)I"⟩
abbrev cX0_makeReadable : ByteArray := prog_2_method_19_code
def yX0_makeReadable : MethodName := ⟨RX0, "makeReadable", "(II)I"⟩
abbrev cX0_nearestColour : ByteArray := prog_2_method_20_code
def yX0_nearestColour : MethodName := ⟨RX0, "nearestColour", "(III)I"⟩
def RX1 : String := "PotLabels$Colours"
def TX1 : u_T := fun k => match k with
  | _ => ("", "", "", false)
def tyX1 : Nat → FieldType := fun k => match k with
  | _ => .int
abbrev wsX10 : List Cond := u_ws RX1 TX1 0
theorem nmX1 : ∀ a, a < 0 → ∀ b, b < 0 → a ≠ b → (TX1 a).2.1 ≠ (TX1 b).2.1 := by decide +kernel
theorem tyX1_ok : ∀ k, k < 0 → parseFieldDescriptor (TX1 k).2.2.1 = some (tyX1 k) := by decide +kernel
abbrev cX1_partOf : ByteArray := prog_3_method_2_code
def yX1_partOf : MethodName := ⟨RX1, "partOf", "(II)I"⟩
abbrev cX1_withPart : ByteArray := prog_3_method_3_code
def yX1_withPart : MethodName := ⟨RX1, "withPart", "(III)I"⟩
abbrev cX1_seenAs : ByteArray := prog_3_method_4_code
def yX1_seenAs : MethodName := ⟨RX1, "seenAs", "(II)I"⟩
abbrev cX1_distance : ByteArray := prog_3_method_5_code
def yX1_distance : MethodName := ⟨RX1, "distance", "(III)I"⟩
abbrev cX1_change : ByteArray := prog_3_method_6_code
def yX1_change : MethodName := ⟨RX1, "change", "(II)I"⟩
def RX2 : String := "PotLabels$Labelling"
def TX2 : u_T := fun k => match k with
  | 0 => ("PotLabels$Labelling", "rivals", "[I", true)
  | 1 => ("PotLabels$Labelling", "peaceful", "[Z", true)
  | 2 => ("PotLabels$Labelling", "needs", "[I", true)
  | _ => ("PotLabels$Labelling", "bearers", "[I", true)
def tyX2 : Nat → FieldType := fun k => match k with
  | 0 => .array .int
  | 1 => .array .boolean
  | 2 => .array .int
  | _ => .array .int
abbrev wsX20 : List Cond := u_ws RX2 TX2 4
theorem nmX2 : ∀ a, a < 4 → ∀ b, b < 4 → a ≠ b → (TX2 a).2.1 ≠ (TX2 b).2.1 := by decide +kernel
theorem tyX2_ok : ∀ k, k < 4 → parseFieldDescriptor (TX2 k).2.2.1 = some (tyX2 k) := by decide +kernel
abbrev cX2_init : ByteArray := prog_4_method_1_code
def yX2_init : MethodName := ⟨RX2, "<init>", "()V"⟩
abbrev cX2_look : ByteArray := prog_4_method_2_code
def yX2_look : MethodName := ⟨RX2, "look", "(LPotLabels$Bureau;I)V"⟩
abbrev cX2_fewestBySets : ByteArray := prog_4_method_3_code
def yX2_fewestBySets : MethodName := ⟨RX2, "fewestBySets", "()I"⟩
abbrev cX2_needOf : ByteArray := prog_4_method_4_code
def yX2_needOf : MethodName := ⟨RX2, "needOf", "(II)I"⟩
abbrev cX2_fewestByTrying : ByteArray := prog_4_method_5_code
def yX2_fewestByTrying : MethodName := ⟨RX2, "fewestByTrying", "()I"⟩
abbrev cX2_fewestFrom : ByteArray := prog_4_method_6_code
def yX2_fewestFrom : MethodName := ⟨RX2, "fewestFrom", "([I[IIII)I"⟩
def RX3 : String := "PotLabels$Memory"
def TX3 : u_T := fun k => match k with
  | 0 => ("PotLabels$Memory", "slots", "[LPotLabels$Bureau;", true)
  | 1 => ("PotLabels$Memory", "filled", "[Z", true)
  | 2 => ("PotLabels$Memory", "saved", "[LPotLabels$Bureau;", true)
  | _ => ("PotLabels$Memory", "held", "I", false)
def tyX3 : Nat → FieldType := fun k => match k with
  | 0 => .array (.object "PotLabels$Bureau")
  | 1 => .array .boolean
  | 2 => .array (.object "PotLabels$Bureau")
  | _ => .int
abbrev wsX30 : List Cond := u_ws RX3 TX3 4
theorem nmX3 : ∀ a, a < 4 → ∀ b, b < 4 → a ≠ b → (TX3 a).2.1 ≠ (TX3 b).2.1 := by decide +kernel
theorem tyX3_ok : ∀ k, k < 4 → parseFieldDescriptor (TX3 k).2.2.1 = some (tyX3 k) := by decide +kernel
abbrev cX3_init : ByteArray := prog_5_method_1_code
def yX3_init : MethodName := ⟨RX3, "<init>", "()V"⟩
abbrev cX3_save : ByteArray := prog_5_method_2_code
def yX3_save : MethodName := ⟨RX3, "save", "(LPotLabels$Bureau;)V"⟩
abbrev cX3_dropOldest : ByteArray := prog_5_method_3_code
def yX3_dropOldest : MethodName := ⟨RX3, "dropOldest", "()V"⟩
abbrev cX3_restore : ByteArray := prog_5_method_4_code
def yX3_restore : MethodName := ⟨RX3, "restore", "(LPotLabels$Bureau;)V"⟩
def RX4 : String := "PotLabels$Text"
def TX4 : u_T := fun k => match k with
  | 0 => ("PotLabels$Text", "codes", "[I", true)
  | _ => ("PotLabels$Text", "length", "I", false)
def tyX4 : Nat → FieldType := fun k => match k with
  | 0 => .array .int
  | _ => .int
abbrev wsX40 : List Cond := u_ws RX4 TX4 2
theorem nmX4 : ∀ a, a < 2 → ∀ b, b < 2 → a ≠ b → (TX4 a).2.1 ≠ (TX4 b).2.1 := by decide +kernel
theorem tyX4_ok : ∀ k, k < 2 → parseFieldDescriptor (TX4 k).2.2.1 = some (tyX4 k) := by decide +kernel
abbrev cX4_init : ByteArray := prog_6_method_1_code
def yX4_init : MethodName := ⟨RX4, "<init>", "()V"⟩
abbrev cX4_isFull : ByteArray := prog_6_method_2_code
def yX4_isFull : MethodName := ⟨RX4, "isFull", "()Z"⟩
abbrev cX4_add : ByteArray := prog_6_method_3_code
def yX4_add : MethodName := ⟨RX4, "add", "(I)V"⟩
abbrev cX4_clear : ByteArray := prog_6_method_4_code
def yX4_clear : MethodName := ⟨RX4, "clear", "()V"⟩
abbrev cX4_firstWrong : ByteArray := prog_6_method_5_code
def yX4_firstWrong : MethodName := ⟨RX4, "firstWrong", "()I"⟩
abbrev cX4_fits : ByteArray := prog_6_method_6_code
def yX4_fits : MethodName := ⟨RX4, "fits", "(II)Z"⟩
abbrev cX4_tellsPots : ByteArray := prog_6_method_7_code
def yX4_tellsPots : MethodName := ⟨RX4, "tellsPots", "()Z"⟩
abbrev cX4_giveColours : ByteArray := prog_6_method_8_code
def yX4_giveColours : MethodName := ⟨RX4, "giveColours", "(LPotLabels$Bureau;)V"⟩
def RX5 : String := "PotLabels"
def TX5 : u_T := fun k => match k with
  | 0 => ("PotLabels", "bureau", "LPotLabels$Bureau;", true)
  | 1 => ("PotLabels", "memory", "LPotLabels$Memory;", true)
  | 2 => ("PotLabels", "text", "LPotLabels$Text;", true)
  | _ => ("PotLabels", "labelling", "LPotLabels$Labelling;", true)
def tyX5 : Nat → FieldType := fun k => match k with
  | 0 => .object "PotLabels$Bureau"
  | 1 => .object "PotLabels$Memory"
  | 2 => .object "PotLabels$Text"
  | _ => .object "PotLabels$Labelling"
abbrev wsX50 : List Cond := u_ws RX5 TX5 4
theorem nmX5 : ∀ a, a < 4 → ∀ b, b < 4 → a ≠ b → (TX5 a).2.1 ≠ (TX5 b).2.1 := by decide +kernel
theorem tyX5_ok : ∀ k, k < 4 → parseFieldDescriptor (TX5 k).2.2.1 = some (tyX5 k) := by decide +kernel
abbrev cX5_init : ByteArray := prog_1_method_1_code
def yX5_init : MethodName := ⟨RX5, "<init>", "()V"⟩
abbrev cX5_mix : ByteArray := prog_1_method_2_code
def yX5_mix : MethodName := ⟨RX5, "mix", "(III)I"⟩
abbrev cX5_painter : ByteArray := prog_1_method_3_code
def yX5_painter : MethodName := ⟨RX5, "painter", "(III)I"⟩
abbrev cX5_borrow : ByteArray := prog_1_method_4_code
def yX5_borrow : MethodName := ⟨RX5, "borrow", "(II)I"⟩
abbrev cX5_label : ByteArray := prog_1_method_5_code
def yX5_label : MethodName := ⟨RX5, "label", "(II)I"⟩
abbrev cX5_labelAll : ByteArray := prog_1_method_6_code
def yX5_labelAll : MethodName := ⟨RX5, "labelAll", "(I)I"⟩
abbrev cX5_hang : ByteArray := prog_1_method_7_code
def yX5_hang : MethodName := ⟨RX5, "hang", "(II)I"⟩
abbrev cX5_takeDown : ByteArray := prog_1_method_8_code
def yX5_takeDown : MethodName := ⟨RX5, "takeDown", "(I)I"⟩
abbrev cX5_correct : ByteArray := prog_1_method_9_code
def yX5_correct : MethodName := ⟨RX5, "correct", "(II)I"⟩
abbrev cX5_append : ByteArray := prog_1_method_10_code
def yX5_append : MethodName := ⟨RX5, "append", "(I)I"⟩
abbrev cX5_clearBuffer : ByteArray := prog_1_method_11_code
def yX5_clearBuffer : MethodName := ⟨RX5, "clearBuffer", "()I"⟩
abbrev cX5_load : ByteArray := prog_1_method_13_code
def yX5_load : MethodName := ⟨RX5, "load", "()I"⟩
abbrev cX5_undo : ByteArray := prog_1_method_16_code
def yX5_undo : MethodName := ⟨RX5, "undo", "()I"⟩
abbrev cX5_potOf : ByteArray := prog_1_method_17_code
def yX5_potOf : MethodName := ⟨RX5, "potOf", "(II)I"⟩
abbrev cX5_seen : ByteArray := prog_1_method_18_code
def yX5_seen : MethodName := ⟨RX5, "seen", "(II)I"⟩
abbrev cX5_painterOf : ByteArray := prog_1_method_19_code
def yX5_painterOf : MethodName := ⟨RX5, "painterOf", "(II)I"⟩
abbrev cX5_apart : ByteArray := prog_1_method_20_code
def yX5_apart : MethodName := ⟨RX5, "apart", "(III)I"⟩
abbrev cX5_chartOf : ByteArray := prog_1_method_21_code
def yX5_chartOf : MethodName := ⟨RX5, "chartOf", "(II)I"⟩
abbrev cX5_count : ByteArray := prog_1_method_22_code
def yX5_count : MethodName := ⟨RX5, "count", "(I)I"⟩
abbrev cX5_fewest : ByteArray := prog_1_method_23_code
def yX5_fewest : MethodName := ⟨RX5, "fewest", "(II)I"⟩
abbrev cX5_ifBorrowed : ByteArray := prog_1_method_24_code
def yX5_ifBorrowed : MethodName := ⟨RX5, "ifBorrowed", "(II)I"⟩
abbrev cX5_leastChange : ByteArray := prog_1_method_25_code
def yX5_leastChange : MethodName := ⟨RX5, "leastChange", "(III)I"⟩
abbrev cX5_bestPainter : ByteArray := prog_1_method_26_code
def yX5_bestPainter : MethodName := ⟨RX5, "bestPainter", "()I"⟩
abbrev cX5_apartShare : ByteArray := prog_1_method_27_code
def yX5_apartShare : MethodName := ⟨RX5, "apartShare", "()D"⟩
abbrev cX5_needPot : ByteArray := prog_1_method_35_code
def yX5_needPot : MethodName := ⟨RX5, "needPot", "(I)V"⟩
abbrev cX5_needPainter : ByteArray := prog_1_method_36_code
def yX5_needPainter : MethodName := ⟨RX5, "needPainter", "(I)V"⟩
abbrev cX5_needChart : ByteArray := prog_1_method_37_code
def yX5_needChart : MethodName := ⟨RX5, "needChart", "(I)V"⟩
abbrev cX5_needWithin : ByteArray := prog_1_method_38_code
def yX5_needWithin : MethodName := ⟨RX5, "needWithin", "(III)V"⟩
abbrev cX5_needUnlike : ByteArray := prog_1_method_39_code
def yX5_needUnlike : MethodName := ⟨RX5, "needUnlike", "(II)V"⟩
def RX6 : String := "PotLabelsModel"
def TX6 : u_T := fun k => match k with
  | _ => ("", "", "", false)
def tyX6 : Nat → FieldType := fun k => match k with
  | _ => .int
abbrev wsX60 : List Cond := u_ws RX6 TX6 0
theorem nmX6 : ∀ a, a < 0 → ∀ b, b < 0 → a ≠ b → (TX6 a).2.1 ≠ (TX6 b).2.1 := by decide +kernel
theorem tyX6_ok : ∀ k, k < 0 → parseFieldDescriptor (TX6 k).2.2.1 = some (tyX6 k) := by decide +kernel
def RJ6 : String := "java/lang/Integer"
def TJ6 : u_T := fun k => match k with
  | _ => ("", "", "", false)
def tyJ6 : Nat → FieldType := fun k => match k with
  | _ => .int
abbrev wsJ60 : List Cond := u_ws RJ6 TJ6 0
theorem nmJ6 : ∀ a, a < 0 → ∀ b, b < 0 → a ≠ b → (TJ6 a).2.1 ≠ (TJ6 b).2.1 := by decide +kernel
theorem tyJ6_ok : ∀ k, k < 0 → parseFieldDescriptor (TJ6 k).2.2.1 = some (tyJ6 k) := by decide +kernel
abbrev cJ6_bitCount_0f7a4 : ByteArray := prog_13_method_49_code
def yJ6_bitCount_0f7a4 : MethodName := ⟨RJ6, "bitCount", "(I)I"⟩
def RJ9 : String := "java/lang/Math"
def TJ9 : u_T := fun k => match k with
  | _ => ("", "", "", false)
def tyJ9 : Nat → FieldType := fun k => match k with
  | _ => .int
abbrev wsJ90 : List Cond := u_ws RJ9 TJ9 0
theorem nmJ9 : ∀ a, a < 0 → ∀ b, b < 0 → a ≠ b → (TJ9 a).2.1 ≠ (TJ9 b).2.1 := by decide +kernel
theorem tyJ9_ok : ∀ k, k < 0 → parseFieldDescriptor (TJ9 k).2.2.1 = some (tyJ9 k) := by decide +kernel
abbrev cJ9_abs_0f7a4 : ByteArray := prog_14_method_59_code
def yJ9_abs_0f7a4 : MethodName := ⟨RJ9, "abs", "(I)I"⟩
abbrev cJ9_min_7cf53 : ByteArray := prog_14_method_69_code
def yJ9_min_7cf53 : MethodName := ⟨RJ9, "min", "(II)I"⟩
def RJ0 : String := "java/lang/String"
def TJ0 : u_T := fun k => match k with
  | _ => ("", "", "", false)
def tyJ0 : Nat → FieldType := fun k => match k with
  | _ => .int
abbrev wsJ00 : List Cond := u_ws RJ0 TJ0 0
theorem nmJ0 : ∀ a, a < 0 → ∀ b, b < 0 → a ≠ b → (TJ0 a).2.1 ≠ (TJ0 b).2.1 := by decide +kernel
theorem tyJ0_ok : ∀ k, k < 0 → parseFieldDescriptor (TJ0 k).2.2.1 = some (tyJ0 k) := by decide +kernel
def RJ10 : String := "java/lang/System"
def TJ10 : u_T := fun k => match k with
  | _ => ("", "", "", false)
def tyJ10 : Nat → FieldType := fun k => match k with
  | _ => .int
abbrev wsJ100 : List Cond := u_ws RJ10 TJ10 0
theorem nmJ10 : ∀ a, a < 0 → ∀ b, b < 0 → a ≠ b → (TJ10 a).2.1 ≠ (TJ10 b).2.1 := by decide +kernel
theorem tyJ10_ok : ∀ k, k < 0 → parseFieldDescriptor (TJ10 k).2.2.1 = some (tyJ10 k) := by decide +kernel
def RL : String := "PotLabelsLaw"
abbrev cL_at : ByteArray := method_2_code
def yL_at : MethodName := ⟨RL, "at", "([II)I"⟩
abbrev cL_low : ByteArray := method_3_code
def yL_low : MethodName := ⟨RL, "low", "(II)I"⟩
abbrev cL_mix : ByteArray := method_4_code
def yL_mix : MethodName := ⟨RL, "mix", "(LPotLabels;III)I"⟩
abbrev cL_painter : ByteArray := method_5_code
def yL_painter : MethodName := ⟨RL, "painter", "(LPotLabels;III)I"⟩
abbrev cL_borrow : ByteArray := method_6_code
def yL_borrow : MethodName := ⟨RL, "borrow", "(LPotLabels;II)I"⟩
abbrev cL_label : ByteArray := method_7_code
def yL_label : MethodName := ⟨RL, "label", "(LPotLabels;II)I"⟩
abbrev cL_labelAll : ByteArray := method_8_code
def yL_labelAll : MethodName := ⟨RL, "labelAll", "(LPotLabels;I)I"⟩
abbrev cL_hang : ByteArray := method_9_code
def yL_hang : MethodName := ⟨RL, "hang", "(LPotLabels;II)I"⟩
abbrev cL_takeDown : ByteArray := method_10_code
def yL_takeDown : MethodName := ⟨RL, "takeDown", "(LPotLabels;I)I"⟩
abbrev cL_correct : ByteArray := method_11_code
def yL_correct : MethodName := ⟨RL, "correct", "(LPotLabels;II)I"⟩
abbrev cL_append : ByteArray := method_12_code
def yL_append : MethodName := ⟨RL, "append", "(LPotLabels;I)I"⟩
abbrev cL_load : ByteArray := method_13_code
def yL_load : MethodName := ⟨RL, "load", "(LPotLabels;)I"⟩
abbrev cL_undo : ByteArray := method_14_code
def yL_undo : MethodName := ⟨RL, "undo", "(LPotLabels;)I"⟩
abbrev cL_potOf : ByteArray := method_15_code
def yL_potOf : MethodName := ⟨RL, "potOf", "(LPotLabels;II)I"⟩
abbrev cL_seen : ByteArray := method_16_code
def yL_seen : MethodName := ⟨RL, "seen", "(LPotLabels;II)I"⟩
abbrev cL_painterOf : ByteArray := method_17_code
def yL_painterOf : MethodName := ⟨RL, "painterOf", "(LPotLabels;II)I"⟩
abbrev cL_apart : ByteArray := method_18_code
def yL_apart : MethodName := ⟨RL, "apart", "(LPotLabels;III)I"⟩
abbrev cL_chartOf : ByteArray := method_19_code
def yL_chartOf : MethodName := ⟨RL, "chartOf", "(LPotLabels;II)I"⟩
abbrev cL_count : ByteArray := method_20_code
def yL_count : MethodName := ⟨RL, "count", "(LPotLabels;I)I"⟩
abbrev cL_fewest : ByteArray := method_21_code
def yL_fewest : MethodName := ⟨RL, "fewest", "(LPotLabels;II)I"⟩
abbrev cL_ifBorrowed : ByteArray := method_22_code
def yL_ifBorrowed : MethodName := ⟨RL, "ifBorrowed", "(LPotLabels;II)I"⟩
abbrev cL_leastChange : ByteArray := method_23_code
def yL_leastChange : MethodName := ⟨RL, "leastChange", "(LPotLabels;III)I"⟩
abbrev cL_act : ByteArray := method_24_code
def yL_act : MethodName := ⟨RL, "act", "(LPotLabels;II)I"⟩
abbrev cL_far : ByteArray := method_25_code
def yL_far : MethodName := ⟨RL, "far", "(II)I"⟩
abbrev cL_hangs : ByteArray := method_26_code
def yL_hangs : MethodName := ⟨RL, "hangs", "(LPotLabels;)Z"⟩
abbrev cL_print : ByteArray := method_27_code
def yL_print : MethodName := ⟨RL, "print", "(LPotLabels;)J"⟩
abbrev cL_labels : ByteArray := method_28_code
def yL_labels : MethodName := ⟨RL, "labels", "(LPotLabels;I)Z"⟩
abbrev cL_borrows : ByteArray := method_29_code
def yL_borrows : MethodName := ⟨RL, "borrows", "(LPotLabels;II)Z"⟩
abbrev cL_corrects : ByteArray := method_30_code
def yL_corrects : MethodName := ⟨RL, "corrects", "(LPotLabels;IIII)Z"⟩
abbrev cL_law : ByteArray := code
def yL_law : MethodName := ⟨RL, "law", "([I)Z"⟩
def wsX0_init : List Cond := .code yX0_init cX0_init 2 none :: ([.methodLink RX0 3 objectInit, .instanceMethod objectInit, .code objectInit ⟨#[0xb1]⟩ 1 none, .arrayClass .int, .fieldLink RX0 9 "PotLabels$Bureau" "colours" "[I", .fieldLink RX0 15 "PotLabels$Bureau" "labels" "[I", .fieldLink RX0 18 "PotLabels$Bureau" "kinds" "[I", .fieldLink RX0 21 "PotLabels$Bureau" "sharpnesses" "[I", .fieldLink RX0 24 "PotLabels$Bureau" "lenders" "[I", .fieldLink RX0 27 "PotLabels$Bureau" "figures" "[I", .fieldLink RX0 30 "PotLabels$Bureau" "grounds" "[I"] ++ wsX00)
def wsX0_copyFrom : List Cond := .code yX0_copyFrom cX0_copyFrom 2 none :: ([.fieldLink RX0 9 "PotLabels$Bureau" "colours" "[I", .methodLink RX0 33 arraycopyName, .native arraycopyName, .static arraycopyName, .initialized "java/lang/System", .fieldLink RX0 15 "PotLabels$Bureau" "labels" "[I", .fieldLink RX0 18 "PotLabels$Bureau" "kinds" "[I", .fieldLink RX0 21 "PotLabels$Bureau" "sharpnesses" "[I", .fieldLink RX0 24 "PotLabels$Bureau" "lenders" "[I", .fieldLink RX0 27 "PotLabels$Bureau" "figures" "[I", .fieldLink RX0 30 "PotLabels$Bureau" "grounds" "[I", .fieldLink RX0 39 "PotLabels$Bureau" "charts" "I", .fieldLink RX0 43 "PotLabels$Bureau" "corrections" "I", .fieldLink RX0 46 "PotLabels$Bureau" "refusals" "I"] ++ wsX00)
def wsX1_seenAs : List Cond := .code yX1_seenAs cX1_seenAs 5 (some .int) :: ([])
def wsX1_distance : List Cond := .code yX1_distance cX1_distance 5 (some .int) :: ([.methodLink RX1 16 Lib.Math.abs.name, .static Lib.Math.abs.name, .initialized "java/lang/Math", .code Lib.Math.abs.name Lib.Math.abs.code 1 (some .int), .methodLink RX1 13 yX1_seenAs, .static yX1_seenAs, .initialized RX1, .code yX1_seenAs cX1_seenAs 5 (some .int)])
def wsX0_tellsColours : List Cond := .code yX0_tellsColours cX0_tellsColours 6 (some .boolean) :: ([.fieldLink RX0 21 "PotLabels$Bureau" "sharpnesses" "[I", .fieldLink RX0 18 "PotLabels$Bureau" "kinds" "[I", .methodLink RX0 53 yX1_distance, .static yX1_distance, .initialized RX1, .code yX1_distance cX1_distance 5 (some .int), .methodLink RX1 16 Lib.Math.abs.name, .static Lib.Math.abs.name, .initialized "java/lang/Math", .code Lib.Math.abs.name Lib.Math.abs.code 1 (some .int), .methodLink RX1 13 yX1_seenAs, .static yX1_seenAs, .code yX1_seenAs cX1_seenAs 5 (some .int)] ++ wsX00)
def wsX0_tells : List Cond := .code yX0_tells cX0_tells 4 (some .boolean) :: ([.fieldLink RX0 24 "PotLabels$Bureau" "lenders" "[I", .fieldLink RX0 9 "PotLabels$Bureau" "colours" "[I", .methodLink RX0 49 yX0_tellsColours, .instanceMethod yX0_tellsColours, .selects RX0 yX0_tellsColours yX0_tellsColours, .initialized RX0, .code yX0_tellsColours cX0_tellsColours 6 (some .boolean), .fieldLink RX0 21 "PotLabels$Bureau" "sharpnesses" "[I", .fieldLink RX0 18 "PotLabels$Bureau" "kinds" "[I", .methodLink RX0 53 yX1_distance, .static yX1_distance, .initialized RX1, .code yX1_distance cX1_distance 5 (some .int), .methodLink RX1 16 Lib.Math.abs.name, .static Lib.Math.abs.name, .initialized "java/lang/Math", .code Lib.Math.abs.name Lib.Math.abs.code 1 (some .int), .methodLink RX1 13 yX1_seenAs, .static yX1_seenAs, .code yX1_seenAs cX1_seenAs 5 (some .int)] ++ wsX00)
def wsX0_pairsTold : List Cond := .code yX0_pairsTold cX0_pairsTold 6 (some .int) :: ([.fieldLink RX0 9 "PotLabels$Bureau" "colours" "[I", .methodLink RX0 49 yX0_tellsColours, .instanceMethod yX0_tellsColours, .selects RX0 yX0_tellsColours yX0_tellsColours, .initialized RX0, .code yX0_tellsColours cX0_tellsColours 6 (some .boolean), .fieldLink RX0 21 "PotLabels$Bureau" "sharpnesses" "[I", .fieldLink RX0 18 "PotLabels$Bureau" "kinds" "[I", .methodLink RX0 53 yX1_distance, .static yX1_distance, .initialized RX1, .code yX1_distance cX1_distance 5 (some .int), .methodLink RX1 16 Lib.Math.abs.name, .static Lib.Math.abs.name, .initialized "java/lang/Math", .code Lib.Math.abs.name Lib.Math.abs.code 1 (some .int), .methodLink RX1 13 yX1_seenAs, .static yX1_seenAs, .code yX1_seenAs cX1_seenAs 5 (some .int)] ++ wsX00)
def wsX0_tellersOfPair : List Cond := .code yX0_tellersOfPair cX0_tellersOfPair 5 (some .int) :: ([.fieldLink RX0 24 "PotLabels$Bureau" "lenders" "[I", .fieldLink RX0 9 "PotLabels$Bureau" "colours" "[I", .methodLink RX0 49 yX0_tellsColours, .instanceMethod yX0_tellsColours, .selects RX0 yX0_tellsColours yX0_tellsColours, .initialized RX0, .code yX0_tellsColours cX0_tellsColours 6 (some .boolean), .fieldLink RX0 21 "PotLabels$Bureau" "sharpnesses" "[I", .fieldLink RX0 18 "PotLabels$Bureau" "kinds" "[I", .methodLink RX0 53 yX1_distance, .static yX1_distance, .initialized RX1, .code yX1_distance cX1_distance 5 (some .int), .methodLink RX1 16 Lib.Math.abs.name, .static Lib.Math.abs.name, .initialized "java/lang/Math", .code Lib.Math.abs.name Lib.Math.abs.code 1 (some .int), .methodLink RX1 13 yX1_seenAs, .static yX1_seenAs, .code yX1_seenAs cX1_seenAs 5 (some .int)] ++ wsX00)
def wsX0_pairsToldByNobody : List Cond := .code yX0_pairsToldByNobody cX0_pairsToldByNobody 4 (some .int) :: ([.methodLink RX0 59 yX0_tellersOfPair, .instanceMethod yX0_tellersOfPair, .selects RX0 yX0_tellersOfPair yX0_tellersOfPair, .initialized RX0, .code yX0_tellersOfPair cX0_tellersOfPair 5 (some .int), .fieldLink RX0 24 "PotLabels$Bureau" "lenders" "[I", .fieldLink RX0 9 "PotLabels$Bureau" "colours" "[I", .methodLink RX0 49 yX0_tellsColours, .instanceMethod yX0_tellsColours, .selects RX0 yX0_tellsColours yX0_tellsColours, .code yX0_tellsColours cX0_tellsColours 6 (some .boolean), .fieldLink RX0 21 "PotLabels$Bureau" "sharpnesses" "[I", .fieldLink RX0 18 "PotLabels$Bureau" "kinds" "[I", .methodLink RX0 53 yX1_distance, .static yX1_distance, .initialized RX1, .code yX1_distance cX1_distance 5 (some .int), .methodLink RX1 16 Lib.Math.abs.name, .static Lib.Math.abs.name, .initialized "java/lang/Math", .code Lib.Math.abs.name Lib.Math.abs.code 1 (some .int), .methodLink RX1 13 yX1_seenAs, .static yX1_seenAs, .code yX1_seenAs cX1_seenAs 5 (some .int)] ++ wsX00)
def wsX0_tellersOf : List Cond := .code yX0_tellersOf cX0_tellersOf 4 (some .int) :: ([.methodLink RX0 59 yX0_tellersOfPair, .instanceMethod yX0_tellersOfPair, .selects RX0 yX0_tellersOfPair yX0_tellersOfPair, .initialized RX0, .code yX0_tellersOfPair cX0_tellersOfPair 5 (some .int), .fieldLink RX0 24 "PotLabels$Bureau" "lenders" "[I", .fieldLink RX0 9 "PotLabels$Bureau" "colours" "[I", .methodLink RX0 49 yX0_tellsColours, .instanceMethod yX0_tellsColours, .selects RX0 yX0_tellsColours yX0_tellsColours, .code yX0_tellsColours cX0_tellsColours 6 (some .boolean), .fieldLink RX0 21 "PotLabels$Bureau" "sharpnesses" "[I", .fieldLink RX0 18 "PotLabels$Bureau" "kinds" "[I", .methodLink RX0 53 yX1_distance, .static yX1_distance, .initialized RX1, .code yX1_distance cX1_distance 5 (some .int), .methodLink RX1 16 Lib.Math.abs.name, .static Lib.Math.abs.name, .initialized "java/lang/Math", .code Lib.Math.abs.name Lib.Math.abs.code 1 (some .int), .methodLink RX1 13 yX1_seenAs, .static yX1_seenAs, .code yX1_seenAs cX1_seenAs 5 (some .int)] ++ wsX00)
def wsX0_labelled : List Cond := .code yX0_labelled cX0_labelled 3 (some .int) :: ([.fieldLink RX0 15 "PotLabels$Bureau" "labels" "[I"] ++ wsX00)
def wsJ6_bitCount_0f7a4 : List Cond := .code yJ6_bitCount_0f7a4 cJ6_bitCount_0f7a4 1 (some .int) :: ([.constant RJ6 265 (1431655765), .constant RJ6 266 (858993459), .constant RJ6 267 (252645135)])
def wsX0_unlikeLabels : List Cond := .code yX0_unlikeLabels cX0_unlikeLabels 3 (some .int) :: ([.fieldLink RX0 15 "PotLabels$Bureau" "labels" "[I", .methodLink RX0 63 yJ6_bitCount_0f7a4, .static yJ6_bitCount_0f7a4, .initialized RJ6, .code yJ6_bitCount_0f7a4 cJ6_bitCount_0f7a4 1 (some .int), .constant RJ6 265 (1431655765), .constant RJ6 266 (858993459), .constant RJ6 267 (252645135)] ++ wsX00)
def wsX0_wrongPairs_r1 : List Cond := [Cond.fieldLink RX0 15 "PotLabels$Bureau" "labels" "[I", Cond.methodLink RX0 69 yX0_tells, Cond.instanceMethod yX0_tells, Cond.selects RX0 yX0_tells yX0_tells, Cond.initialized RX0, Cond.code yX0_tells cX0_tells 4 (some .boolean), Cond.fieldLink RX0 24 "PotLabels$Bureau" "lenders" "[I", Cond.fieldLink RX0 9 "PotLabels$Bureau" "colours" "[I", Cond.methodLink RX0 49 yX0_tellsColours, Cond.instanceMethod yX0_tellsColours, Cond.selects RX0 yX0_tellsColours yX0_tellsColours, Cond.code yX0_tellsColours cX0_tellsColours 6 (some .boolean), Cond.fieldLink RX0 21 "PotLabels$Bureau" "sharpnesses" "[I", Cond.fieldLink RX0 18 "PotLabels$Bureau" "kinds" "[I", Cond.methodLink RX0 53 yX1_distance, Cond.static yX1_distance, Cond.initialized RX1, Cond.code yX1_distance cX1_distance 5 (some .int), Cond.methodLink RX1 16 Lib.Math.abs.name, Cond.static Lib.Math.abs.name, Cond.initialized "java/lang/Math", Cond.code Lib.Math.abs.name Lib.Math.abs.code 1 (some .int), Cond.methodLink RX1 13 yX1_seenAs, Cond.static yX1_seenAs]
def wsX0_wrongPairs_r2 : List Cond := [Cond.code yX1_seenAs cX1_seenAs 5 (some .int)]
def wsX0_wrongPairs : List Cond := .code yX0_wrongPairs cX0_wrongPairs 5 (some .int) :: ((wsX0_wrongPairs_r1 ++ wsX0_wrongPairs_r2) ++ wsX00)
def wsX0_paintersServed_r1 : List Cond := [Cond.methodLink RX0 73 yX0_wrongPairs, Cond.instanceMethod yX0_wrongPairs, Cond.selects RX0 yX0_wrongPairs yX0_wrongPairs, Cond.initialized RX0, Cond.code yX0_wrongPairs cX0_wrongPairs 5 (some .int), Cond.fieldLink RX0 15 "PotLabels$Bureau" "labels" "[I", Cond.methodLink RX0 69 yX0_tells, Cond.instanceMethod yX0_tells, Cond.selects RX0 yX0_tells yX0_tells, Cond.code yX0_tells cX0_tells 4 (some .boolean), Cond.fieldLink RX0 24 "PotLabels$Bureau" "lenders" "[I", Cond.fieldLink RX0 9 "PotLabels$Bureau" "colours" "[I", Cond.methodLink RX0 49 yX0_tellsColours, Cond.instanceMethod yX0_tellsColours, Cond.selects RX0 yX0_tellsColours yX0_tellsColours, Cond.code yX0_tellsColours cX0_tellsColours 6 (some .boolean), Cond.fieldLink RX0 21 "PotLabels$Bureau" "sharpnesses" "[I", Cond.fieldLink RX0 18 "PotLabels$Bureau" "kinds" "[I", Cond.methodLink RX0 53 yX1_distance, Cond.static yX1_distance, Cond.initialized RX1, Cond.code yX1_distance cX1_distance 5 (some .int), Cond.methodLink RX1 16 Lib.Math.abs.name, Cond.static Lib.Math.abs.name]
def wsX0_paintersServed_r2 : List Cond := [Cond.initialized "java/lang/Math", Cond.code Lib.Math.abs.name Lib.Math.abs.code 1 (some .int), Cond.methodLink RX1 13 yX1_seenAs, Cond.static yX1_seenAs, Cond.code yX1_seenAs cX1_seenAs 5 (some .int)]
def wsX0_paintersServed : List Cond := .code yX0_paintersServed cX0_paintersServed 3 (some .int) :: ((wsX0_paintersServed_r1 ++ wsX0_paintersServed_r2) ++ wsX00)
def wsX0_leastOutside : List Cond := .code yX0_leastOutside cX0_leastOutside 2 (some .int) :: ([])
def wsX0_labelInOrder_r1 : List Cond := [Cond.fieldLink RX0 15 "PotLabels$Bureau" "labels" "[I", Cond.methodLink RX0 69 yX0_tells, Cond.instanceMethod yX0_tells, Cond.selects RX0 yX0_tells yX0_tells, Cond.initialized RX0, Cond.code yX0_tells cX0_tells 4 (some .boolean), Cond.fieldLink RX0 24 "PotLabels$Bureau" "lenders" "[I", Cond.fieldLink RX0 9 "PotLabels$Bureau" "colours" "[I", Cond.methodLink RX0 49 yX0_tellsColours, Cond.instanceMethod yX0_tellsColours, Cond.selects RX0 yX0_tellsColours yX0_tellsColours, Cond.code yX0_tellsColours cX0_tellsColours 6 (some .boolean), Cond.fieldLink RX0 21 "PotLabels$Bureau" "sharpnesses" "[I", Cond.fieldLink RX0 18 "PotLabels$Bureau" "kinds" "[I", Cond.methodLink RX0 53 yX1_distance, Cond.static yX1_distance, Cond.initialized RX1, Cond.code yX1_distance cX1_distance 5 (some .int), Cond.methodLink RX1 16 Lib.Math.abs.name, Cond.static Lib.Math.abs.name, Cond.initialized "java/lang/Math", Cond.code Lib.Math.abs.name Lib.Math.abs.code 1 (some .int), Cond.methodLink RX1 13 yX1_seenAs, Cond.static yX1_seenAs]
def wsX0_labelInOrder_r2 : List Cond := [Cond.code yX1_seenAs cX1_seenAs 5 (some .int), Cond.methodLink RX0 76 yX0_leastOutside, Cond.static yX0_leastOutside, Cond.code yX0_leastOutside cX0_leastOutside 2 (some .int)]
def wsX0_labelInOrder : List Cond := .code yX0_labelInOrder cX0_labelInOrder 5 none :: ((wsX0_labelInOrder_r1 ++ wsX0_labelInOrder_r2) ++ wsX00)
def wsX0_addChart : List Cond := .code yX0_addChart cX0_addChart 3 (some .int) :: ([.fieldLink RX0 39 "PotLabels$Bureau" "charts" "I", .fieldLink RX0 46 "PotLabels$Bureau" "refusals" "I", .fieldLink RX0 27 "PotLabels$Bureau" "figures" "[I", .fieldLink RX0 30 "PotLabels$Bureau" "grounds" "[I"] ++ wsX00)
def wsX0_removeChart : List Cond := .code yX0_removeChart cX0_removeChart 3 none :: ([.fieldLink RX0 39 "PotLabels$Bureau" "charts" "I", .fieldLink RX0 27 "PotLabels$Bureau" "figures" "[I", .fieldLink RX0 30 "PotLabels$Bureau" "grounds" "[I"] ++ wsX00)
def wsX0_readersOf_r1 : List Cond := [Cond.fieldLink RX0 27 "PotLabels$Bureau" "figures" "[I", Cond.fieldLink RX0 30 "PotLabels$Bureau" "grounds" "[I", Cond.methodLink RX0 59 yX0_tellersOfPair, Cond.instanceMethod yX0_tellersOfPair, Cond.selects RX0 yX0_tellersOfPair yX0_tellersOfPair, Cond.initialized RX0, Cond.code yX0_tellersOfPair cX0_tellersOfPair 5 (some .int), Cond.fieldLink RX0 24 "PotLabels$Bureau" "lenders" "[I", Cond.fieldLink RX0 9 "PotLabels$Bureau" "colours" "[I", Cond.methodLink RX0 49 yX0_tellsColours, Cond.instanceMethod yX0_tellsColours, Cond.selects RX0 yX0_tellsColours yX0_tellsColours, Cond.code yX0_tellsColours cX0_tellsColours 6 (some .boolean), Cond.fieldLink RX0 21 "PotLabels$Bureau" "sharpnesses" "[I", Cond.fieldLink RX0 18 "PotLabels$Bureau" "kinds" "[I", Cond.methodLink RX0 53 yX1_distance, Cond.static yX1_distance, Cond.initialized RX1, Cond.code yX1_distance cX1_distance 5 (some .int), Cond.methodLink RX1 16 Lib.Math.abs.name, Cond.static Lib.Math.abs.name, Cond.initialized "java/lang/Math", Cond.code Lib.Math.abs.name Lib.Math.abs.code 1 (some .int), Cond.methodLink RX1 13 yX1_seenAs]
def wsX0_readersOf_r2 : List Cond := [Cond.static yX1_seenAs, Cond.code yX1_seenAs cX1_seenAs 5 (some .int)]
def wsX0_readersOf : List Cond := .code yX0_readersOf cX0_readersOf 2 (some .int) :: ((wsX0_readersOf_r1 ++ wsX0_readersOf_r2) ++ wsX00)
def wsX0_chartsRead_r1 : List Cond := [Cond.fieldLink RX0 39 "PotLabels$Bureau" "charts" "I", Cond.fieldLink RX0 27 "PotLabels$Bureau" "figures" "[I", Cond.fieldLink RX0 30 "PotLabels$Bureau" "grounds" "[I", Cond.methodLink RX0 69 yX0_tells, Cond.instanceMethod yX0_tells, Cond.selects RX0 yX0_tells yX0_tells, Cond.initialized RX0, Cond.code yX0_tells cX0_tells 4 (some .boolean), Cond.fieldLink RX0 24 "PotLabels$Bureau" "lenders" "[I", Cond.fieldLink RX0 9 "PotLabels$Bureau" "colours" "[I", Cond.methodLink RX0 49 yX0_tellsColours, Cond.instanceMethod yX0_tellsColours, Cond.selects RX0 yX0_tellsColours yX0_tellsColours, Cond.code yX0_tellsColours cX0_tellsColours 6 (some .boolean), Cond.fieldLink RX0 21 "PotLabels$Bureau" "sharpnesses" "[I", Cond.fieldLink RX0 18 "PotLabels$Bureau" "kinds" "[I", Cond.methodLink RX0 53 yX1_distance, Cond.static yX1_distance, Cond.initialized RX1, Cond.code yX1_distance cX1_distance 5 (some .int), Cond.methodLink RX1 16 Lib.Math.abs.name, Cond.static Lib.Math.abs.name, Cond.initialized "java/lang/Math", Cond.code Lib.Math.abs.name Lib.Math.abs.code 1 (some .int)]
def wsX0_chartsRead_r2 : List Cond := [Cond.methodLink RX1 13 yX1_seenAs, Cond.static yX1_seenAs, Cond.code yX1_seenAs cX1_seenAs 5 (some .int)]
def wsX0_chartsRead : List Cond := .code yX0_chartsRead cX0_chartsRead 4 (some .int) :: ((wsX0_chartsRead_r1 ++ wsX0_chartsRead_r2) ++ wsX00)
def wsX1_change : List Cond := .code yX1_change cX1_change 2 (some .int) :: ([.methodLink RX1 22 yX1_distance, .static yX1_distance, .initialized RX1, .code yX1_distance cX1_distance 5 (some .int), .methodLink RX1 16 Lib.Math.abs.name, .static Lib.Math.abs.name, .initialized "java/lang/Math", .code Lib.Math.abs.name Lib.Math.abs.code 1 (some .int), .methodLink RX1 13 yX1_seenAs, .static yX1_seenAs, .code yX1_seenAs cX1_seenAs 5 (some .int)])
def wsX0_nearestColour : List Cond := .code yX0_nearestColour cX0_nearestColour 8 (some .int) :: ([.fieldLink RX0 9 "PotLabels$Bureau" "colours" "[I", .fieldLink RX0 24 "PotLabels$Bureau" "lenders" "[I", .methodLink RX0 82 yX1_change, .static yX1_change, .initialized RX1, .code yX1_change cX1_change 2 (some .int), .methodLink RX1 22 yX1_distance, .static yX1_distance, .code yX1_distance cX1_distance 5 (some .int), .methodLink RX1 16 Lib.Math.abs.name, .static Lib.Math.abs.name, .initialized "java/lang/Math", .code Lib.Math.abs.name Lib.Math.abs.code 1 (some .int), .methodLink RX1 13 yX1_seenAs, .static yX1_seenAs, .code yX1_seenAs cX1_seenAs 5 (some .int), .methodLink RX0 49 yX0_tellsColours, .instanceMethod yX0_tellsColours, .selects RX0 yX0_tellsColours yX0_tellsColours, .initialized RX0, .code yX0_tellsColours cX0_tellsColours 6 (some .boolean), .fieldLink RX0 21 "PotLabels$Bureau" "sharpnesses" "[I", .fieldLink RX0 18 "PotLabels$Bureau" "kinds" "[I", .methodLink RX0 53 yX1_distance] ++ wsX00)
def wsX0_makeReadable_r1 : List Cond := [Cond.fieldLink RX0 27 "PotLabels$Bureau" "figures" "[I", Cond.fieldLink RX0 30 "PotLabels$Bureau" "grounds" "[I", Cond.fieldLink RX0 46 "PotLabels$Bureau" "refusals" "I", Cond.fieldLink RX0 9 "PotLabels$Bureau" "colours" "[I", Cond.fieldLink RX0 43 "PotLabels$Bureau" "corrections" "I", Cond.methodLink RX0 79 yX0_nearestColour, Cond.instanceMethod yX0_nearestColour, Cond.selects RX0 yX0_nearestColour yX0_nearestColour, Cond.initialized RX0, Cond.code yX0_nearestColour cX0_nearestColour 8 (some .int), Cond.fieldLink RX0 24 "PotLabels$Bureau" "lenders" "[I", Cond.methodLink RX0 82 yX1_change, Cond.static yX1_change, Cond.initialized RX1, Cond.code yX1_change cX1_change 2 (some .int), Cond.methodLink RX1 22 yX1_distance, Cond.static yX1_distance, Cond.code yX1_distance cX1_distance 5 (some .int), Cond.methodLink RX1 16 Lib.Math.abs.name, Cond.static Lib.Math.abs.name, Cond.initialized "java/lang/Math", Cond.code Lib.Math.abs.name Lib.Math.abs.code 1 (some .int), Cond.methodLink RX1 13 yX1_seenAs, Cond.static yX1_seenAs]
def wsX0_makeReadable_r2 : List Cond := [Cond.code yX1_seenAs cX1_seenAs 5 (some .int), Cond.methodLink RX0 49 yX0_tellsColours, Cond.instanceMethod yX0_tellsColours, Cond.selects RX0 yX0_tellsColours yX0_tellsColours, Cond.code yX0_tellsColours cX0_tellsColours 6 (some .boolean), Cond.fieldLink RX0 21 "PotLabels$Bureau" "sharpnesses" "[I", Cond.fieldLink RX0 18 "PotLabels$Bureau" "kinds" "[I", Cond.methodLink RX0 53 yX1_distance]
def wsX0_makeReadable : List Cond := .code yX0_makeReadable cX0_makeReadable 6 (some .int) :: ((wsX0_makeReadable_r1 ++ wsX0_makeReadable_r2) ++ wsX00)
def wsX1_partOf : List Cond := .code yX1_partOf cX1_partOf 2 (some .int) :: ([])
def wsX1_withPart : List Cond := .code yX1_withPart cX1_withPart 4 (some .int) :: ([.methodLink RX1 7 yX1_partOf, .static yX1_partOf, .initialized RX1, .code yX1_partOf cX1_partOf 2 (some .int)])
def wsX2_init : List Cond := .code yX2_init cX2_init 1 none :: ([.methodLink RX2 3 objectInit, .instanceMethod objectInit, .code objectInit ⟨#[0xb1]⟩ 1 none, .arrayClass .int, .fieldLink RX2 9 "PotLabels$Labelling" "rivals" "[I", .arrayClass .boolean, .fieldLink RX2 15 "PotLabels$Labelling" "peaceful" "[Z", .fieldLink RX2 19 "PotLabels$Labelling" "needs" "[I", .fieldLink RX2 22 "PotLabels$Labelling" "bearers" "[I"] ++ wsX20)
def wsX2_look_r1 : List Cond := [Cond.fieldLink RX2 9 "PotLabels$Labelling" "rivals" "[I", Cond.methodLink RX2 25 yX0_tells, Cond.instanceMethod yX0_tells, Cond.selects RX0 yX0_tells yX0_tells, Cond.initialized RX0, Cond.code yX0_tells cX0_tells 4 (some .boolean), Cond.fieldLink RX0 24 "PotLabels$Bureau" "lenders" "[I", Cond.fieldLink RX0 9 "PotLabels$Bureau" "colours" "[I", Cond.methodLink RX0 49 yX0_tellsColours, Cond.instanceMethod yX0_tellsColours, Cond.selects RX0 yX0_tellsColours yX0_tellsColours, Cond.code yX0_tellsColours cX0_tellsColours 6 (some .boolean), Cond.fieldLink RX0 21 "PotLabels$Bureau" "sharpnesses" "[I", Cond.fieldLink RX0 18 "PotLabels$Bureau" "kinds" "[I", Cond.methodLink RX0 53 yX1_distance, Cond.static yX1_distance, Cond.initialized RX1, Cond.code yX1_distance cX1_distance 5 (some .int), Cond.methodLink RX1 16 Lib.Math.abs.name, Cond.static Lib.Math.abs.name, Cond.initialized "java/lang/Math", Cond.code Lib.Math.abs.name Lib.Math.abs.code 1 (some .int), Cond.methodLink RX1 13 yX1_seenAs, Cond.static yX1_seenAs]
def wsX2_look_r2 : List Cond := [Cond.code yX1_seenAs cX1_seenAs 5 (some .int)]
def wsX2_look : List Cond := .code yX2_look cX2_look 5 none :: ((wsX2_look_r1 ++ wsX2_look_r2) ++ wsX20 ++ wsX00)
def wsX2_needOf : List Cond := .code yX2_needOf cX2_needOf 5 (some .int) :: ([.fieldLink RX2 15 "PotLabels$Labelling" "peaceful" "[Z", .fieldLink RX2 19 "PotLabels$Labelling" "needs" "[I", .methodLink RX2 35 Lib.Math.min.name, .static Lib.Math.min.name, .initialized "java/lang/Math", .code Lib.Math.min.name Lib.Math.min.code 2 (some .int)] ++ wsX20)
def wsX2_fewestBySets : List Cond := .code yX2_fewestBySets cX2_fewestBySets 4 (some .int) :: ([.fieldLink RX2 15 "PotLabels$Labelling" "peaceful" "[Z", .fieldLink RX2 19 "PotLabels$Labelling" "needs" "[I", .fieldLink RX2 9 "PotLabels$Labelling" "rivals" "[I", .methodLink RX2 31 yX2_needOf, .instanceMethod yX2_needOf, .selects RX2 yX2_needOf yX2_needOf, .initialized RX2, .code yX2_needOf cX2_needOf 5 (some .int), .methodLink RX2 35 Lib.Math.min.name, .static Lib.Math.min.name, .initialized "java/lang/Math", .code Lib.Math.min.name Lib.Math.min.code 2 (some .int)] ++ wsX20)
def wsX2_fewestFrom : List Cond := .code yX2_fewestFrom cX2_fewestFrom 8 (some .int) :: ([.methodLink RX2 40 yX2_fewestFrom, .static yX2_fewestFrom, .initialized RX2])
def wsX2_fewestByTrying : List Cond := .code yX2_fewestByTrying cX2_fewestByTrying 1 (some .int) :: ([.fieldLink RX2 9 "PotLabels$Labelling" "rivals" "[I", .fieldLink RX2 22 "PotLabels$Labelling" "bearers" "[I", .methodLink RX2 40 yX2_fewestFrom, .static yX2_fewestFrom, .initialized RX2, .code yX2_fewestFrom cX2_fewestFrom 8 (some .int)] ++ wsX20)
def wsX3_init : List Cond := .code yX3_init cX3_init 2 none :: ([.methodLink RX3 3 objectInit, .instanceMethod objectInit, .code objectInit ⟨#[0xb1]⟩ 1 none, .classLink RX3 9 RX0, .fieldLink RX3 11 "PotLabels$Memory" "slots" "[LPotLabels$Bureau;", .arrayClass .boolean, .fieldLink RX3 17 "PotLabels$Memory" "filled" "[Z", .fieldLink RX3 21 "PotLabels$Memory" "saved" "[LPotLabels$Bureau;", .instantiable RX0 10, .initialized RX0, .methodLink RX3 24 yX0_init, .instanceMethod yX0_init, .code yX0_init cX0_init 2 none, .methodLink RX0 3 objectInit, .arrayClass .int, .fieldLink RX0 9 "PotLabels$Bureau" "colours" "[I", .fieldLink RX0 15 "PotLabels$Bureau" "labels" "[I", .fieldLink RX0 18 "PotLabels$Bureau" "kinds" "[I", .fieldLink RX0 21 "PotLabels$Bureau" "sharpnesses" "[I", .fieldLink RX0 24 "PotLabels$Bureau" "lenders" "[I", .fieldLink RX0 27 "PotLabels$Bureau" "figures" "[I", .fieldLink RX0 30 "PotLabels$Bureau" "grounds" "[I"] ++ wsX30 ++ wsX00)
def wsX3_dropOldest : List Cond := .code yX3_dropOldest cX3_dropOldest 3 none :: ([.fieldLink RX3 21 "PotLabels$Memory" "saved" "[LPotLabels$Bureau;", .fieldLink RX3 25 "PotLabels$Memory" "held" "I"] ++ wsX30)
def wsX3_save_r1 : List Cond := [Cond.fieldLink RX3 25 "PotLabels$Memory" "held" "I", Cond.fieldLink RX3 21 "PotLabels$Memory" "saved" "[LPotLabels$Bureau;", Cond.methodLink RX3 29 yX3_dropOldest, Cond.instanceMethod yX3_dropOldest, Cond.selects RX3 yX3_dropOldest yX3_dropOldest, Cond.initialized RX3, Cond.code yX3_dropOldest cX3_dropOldest 3 none, Cond.methodLink RX3 32 yX0_copyFrom, Cond.instanceMethod yX0_copyFrom, Cond.selects RX0 yX0_copyFrom yX0_copyFrom, Cond.initialized RX0, Cond.code yX0_copyFrom cX0_copyFrom 2 none, Cond.fieldLink RX0 9 "PotLabels$Bureau" "colours" "[I", Cond.methodLink RX0 33 arraycopyName, Cond.native arraycopyName, Cond.static arraycopyName, Cond.initialized "java/lang/System", Cond.fieldLink RX0 15 "PotLabels$Bureau" "labels" "[I", Cond.fieldLink RX0 18 "PotLabels$Bureau" "kinds" "[I", Cond.fieldLink RX0 21 "PotLabels$Bureau" "sharpnesses" "[I", Cond.fieldLink RX0 24 "PotLabels$Bureau" "lenders" "[I", Cond.fieldLink RX0 27 "PotLabels$Bureau" "figures" "[I", Cond.fieldLink RX0 30 "PotLabels$Bureau" "grounds" "[I", Cond.fieldLink RX0 39 "PotLabels$Bureau" "charts" "I"]
def wsX3_save_r2 : List Cond := [Cond.fieldLink RX0 43 "PotLabels$Bureau" "corrections" "I", Cond.fieldLink RX0 46 "PotLabels$Bureau" "refusals" "I"]
def wsX3_save : List Cond := .code yX3_save cX3_save 2 none :: ((wsX3_save_r1 ++ wsX3_save_r2) ++ wsX30 ++ wsX00)
def wsX3_restore : List Cond := .code yX3_restore cX3_restore 2 none :: ([.fieldLink RX3 25 "PotLabels$Memory" "held" "I", .fieldLink RX3 21 "PotLabels$Memory" "saved" "[LPotLabels$Bureau;", .methodLink RX3 32 yX0_copyFrom, .instanceMethod yX0_copyFrom, .selects RX0 yX0_copyFrom yX0_copyFrom, .initialized RX0, .code yX0_copyFrom cX0_copyFrom 2 none, .fieldLink RX0 9 "PotLabels$Bureau" "colours" "[I", .methodLink RX0 33 arraycopyName, .native arraycopyName, .static arraycopyName, .initialized "java/lang/System", .fieldLink RX0 15 "PotLabels$Bureau" "labels" "[I", .fieldLink RX0 18 "PotLabels$Bureau" "kinds" "[I", .fieldLink RX0 21 "PotLabels$Bureau" "sharpnesses" "[I", .fieldLink RX0 24 "PotLabels$Bureau" "lenders" "[I", .fieldLink RX0 27 "PotLabels$Bureau" "figures" "[I", .fieldLink RX0 30 "PotLabels$Bureau" "grounds" "[I", .fieldLink RX0 39 "PotLabels$Bureau" "charts" "I", .fieldLink RX0 43 "PotLabels$Bureau" "corrections" "I", .fieldLink RX0 46 "PotLabels$Bureau" "refusals" "I"] ++ wsX30 ++ wsX00)
def wsX4_init : List Cond := .code yX4_init cX4_init 1 none :: ([.methodLink RX4 3 objectInit, .instanceMethod objectInit, .code objectInit ⟨#[0xb1]⟩ 1 none, .arrayClass .int, .fieldLink RX4 9 "PotLabels$Text" "codes" "[I"] ++ wsX40)
def wsX4_isFull : List Cond := .code yX4_isFull cX4_isFull 1 (some .boolean) :: ([.fieldLink RX4 15 "PotLabels$Text" "length" "I"] ++ wsX40)
def wsX4_add : List Cond := .code yX4_add cX4_add 2 none :: ([.fieldLink RX4 15 "PotLabels$Text" "length" "I", .fieldLink RX4 9 "PotLabels$Text" "codes" "[I"] ++ wsX40)
def wsX4_clear : List Cond := .code yX4_clear cX4_clear 1 none :: ([.fieldLink RX4 15 "PotLabels$Text" "length" "I"] ++ wsX40)
def wsX4_fits : List Cond := .code yX4_fits cX4_fits 2 (some .boolean) :: ([])
def wsX4_firstWrong : List Cond := .code yX4_firstWrong cX4_firstWrong 2 (some .int) :: ([.fieldLink RX4 15 "PotLabels$Text" "length" "I", .fieldLink RX4 9 "PotLabels$Text" "codes" "[I", .methodLink RX4 19 yX4_fits, .static yX4_fits, .initialized RX4, .code yX4_fits cX4_fits 2 (some .boolean)] ++ wsX40)
def wsX4_tellsPots : List Cond := .code yX4_tellsPots cX4_tellsPots 1 (some .boolean) :: ([.fieldLink RX4 15 "PotLabels$Text" "length" "I", .methodLink RX4 23 yX4_firstWrong, .instanceMethod yX4_firstWrong, .selects RX4 yX4_firstWrong yX4_firstWrong, .initialized RX4, .code yX4_firstWrong cX4_firstWrong 2 (some .int), .fieldLink RX4 9 "PotLabels$Text" "codes" "[I", .methodLink RX4 19 yX4_fits, .static yX4_fits, .code yX4_fits cX4_fits 2 (some .boolean)] ++ wsX40)
def wsX4_giveColours : List Cond := .code yX4_giveColours cX4_giveColours 4 none :: ([.fieldLink RX4 15 "PotLabels$Text" "length" "I", .fieldLink RX4 9 "PotLabels$Text" "codes" "[I"] ++ wsX40 ++ wsX00)
def wsX5_init_r1 : List Cond := [Cond.methodLink RX5 3 objectInit, Cond.instanceMethod objectInit, Cond.code objectInit ⟨#[0xb1]⟩ 1 none, Cond.classLink RX5 9 RX0, Cond.instantiable RX0 10, Cond.initialized RX0, Cond.fieldLink RX5 12 "PotLabels" "bureau" "LPotLabels$Bureau;", Cond.classLink RX5 16 RX3, Cond.instantiable RX3 4, Cond.initialized RX3, Cond.fieldLink RX5 19 "PotLabels" "memory" "LPotLabels$Memory;", Cond.classLink RX5 23 RX4, Cond.instantiable RX4 2, Cond.initialized RX4, Cond.fieldLink RX5 26 "PotLabels" "text" "LPotLabels$Text;", Cond.classLink RX5 30 RX2, Cond.instantiable RX2 4, Cond.initialized RX2, Cond.fieldLink RX5 33 "PotLabels" "labelling" "LPotLabels$Labelling;", Cond.methodLink RX5 11 yX0_init, Cond.instanceMethod yX0_init, Cond.code yX0_init cX0_init 2 none, Cond.methodLink RX0 3 objectInit, Cond.arrayClass .int]
def wsX5_init_r2 : List Cond := [Cond.fieldLink RX0 9 "PotLabels$Bureau" "colours" "[I", Cond.fieldLink RX0 15 "PotLabels$Bureau" "labels" "[I", Cond.fieldLink RX0 18 "PotLabels$Bureau" "kinds" "[I", Cond.fieldLink RX0 21 "PotLabels$Bureau" "sharpnesses" "[I", Cond.fieldLink RX0 24 "PotLabels$Bureau" "lenders" "[I", Cond.fieldLink RX0 27 "PotLabels$Bureau" "figures" "[I", Cond.fieldLink RX0 30 "PotLabels$Bureau" "grounds" "[I", Cond.methodLink RX5 18 yX3_init, Cond.instanceMethod yX3_init, Cond.code yX3_init cX3_init 2 none, Cond.methodLink RX3 3 objectInit, Cond.classLink RX3 9 RX0, Cond.fieldLink RX3 11 "PotLabels$Memory" "slots" "[LPotLabels$Bureau;", Cond.arrayClass .boolean, Cond.fieldLink RX3 17 "PotLabels$Memory" "filled" "[Z", Cond.fieldLink RX3 21 "PotLabels$Memory" "saved" "[LPotLabels$Bureau;", Cond.methodLink RX3 24 yX0_init, Cond.instanceMethod yX4_init, Cond.code yX4_init cX4_init 1 none, Cond.methodLink RX4 3 objectInit, Cond.fieldLink RX4 9 "PotLabels$Text" "codes" "[I", Cond.instanceMethod yX2_init, Cond.code yX2_init cX2_init 1 none, Cond.methodLink RX2 3 objectInit]
def wsX5_init_r3 : List Cond := [Cond.fieldLink RX2 9 "PotLabels$Labelling" "rivals" "[I", Cond.fieldLink RX2 15 "PotLabels$Labelling" "peaceful" "[Z", Cond.fieldLink RX2 19 "PotLabels$Labelling" "needs" "[I", Cond.fieldLink RX2 22 "PotLabels$Labelling" "bearers" "[I"]
def wsX5_init : List Cond := .code yX5_init cX5_init 1 none :: ((wsX5_init_r1 ++ (wsX5_init_r2 ++ wsX5_init_r3)) ++ wsX00 ++ wsX50 ++ wsX30 ++ wsX40 ++ wsX20)
def wsX5_needPot : List Cond := .code yX5_needPot cX5_needPot 1 none :: ([.classLink RX5 298 "java/lang/IndexOutOfBoundsException", .initialized "java/lang/IndexOutOfBoundsException"] ++ (vx_atS RX5 302 "java/lang/IndexOutOfBoundsException" ["java/lang/RuntimeException", "java/lang/Exception"]).filter goodWord)
def wsX5_needWithin : List Cond := .code yX5_needWithin cX5_needWithin 3 none :: ([.classLink RX5 137 "java/lang/IllegalArgumentException", .initialized "java/lang/IllegalArgumentException"] ++ (vx_atS RX5 141 "java/lang/IllegalArgumentException" ["java/lang/RuntimeException", "java/lang/Exception"]).filter goodWord)
def wsX5_mix_r1 : List Cond := [Cond.fieldLink RX5 19 "PotLabels" "memory" "LPotLabels$Memory;", Cond.fieldLink RX5 12 "PotLabels" "bureau" "LPotLabels$Bureau;", Cond.methodLink RX5 37 yX5_needPot, Cond.static yX5_needPot, Cond.initialized RX5, Cond.code yX5_needPot cX5_needPot 1 none, Cond.classLink RX5 298 "java/lang/IndexOutOfBoundsException", Cond.initialized "java/lang/IndexOutOfBoundsException", Cond.methodLink RX5 41 yX5_needWithin, Cond.static yX5_needWithin, Cond.code yX5_needWithin cX5_needWithin 3 none, Cond.classLink RX5 137 "java/lang/IllegalArgumentException", Cond.initialized "java/lang/IllegalArgumentException", Cond.methodLink RX5 45 yX3_save, Cond.instanceMethod yX3_save, Cond.selects RX3 yX3_save yX3_save, Cond.initialized RX3, Cond.code yX3_save cX3_save 2 none, Cond.fieldLink RX3 25 "PotLabels$Memory" "held" "I", Cond.fieldLink RX3 21 "PotLabels$Memory" "saved" "[LPotLabels$Bureau;", Cond.methodLink RX3 29 yX3_dropOldest, Cond.instanceMethod yX3_dropOldest, Cond.selects RX3 yX3_dropOldest yX3_dropOldest, Cond.code yX3_dropOldest cX3_dropOldest 3 none]
def wsX5_mix_r2 : List Cond := [Cond.methodLink RX3 32 yX0_copyFrom, Cond.instanceMethod yX0_copyFrom, Cond.selects RX0 yX0_copyFrom yX0_copyFrom, Cond.initialized RX0, Cond.code yX0_copyFrom cX0_copyFrom 2 none, Cond.fieldLink RX0 9 "PotLabels$Bureau" "colours" "[I", Cond.methodLink RX0 33 arraycopyName, Cond.native arraycopyName, Cond.static arraycopyName, Cond.initialized "java/lang/System", Cond.fieldLink RX0 15 "PotLabels$Bureau" "labels" "[I", Cond.fieldLink RX0 18 "PotLabels$Bureau" "kinds" "[I", Cond.fieldLink RX0 21 "PotLabels$Bureau" "sharpnesses" "[I", Cond.fieldLink RX0 24 "PotLabels$Bureau" "lenders" "[I", Cond.fieldLink RX0 27 "PotLabels$Bureau" "figures" "[I", Cond.fieldLink RX0 30 "PotLabels$Bureau" "grounds" "[I", Cond.fieldLink RX0 39 "PotLabels$Bureau" "charts" "I", Cond.fieldLink RX0 43 "PotLabels$Bureau" "corrections" "I", Cond.fieldLink RX0 46 "PotLabels$Bureau" "refusals" "I", Cond.methodLink RX5 53 yX1_partOf, Cond.static yX1_partOf, Cond.initialized RX1, Cond.code yX1_partOf cX1_partOf 2 (some .int), Cond.methodLink RX5 59 yX1_withPart]
def wsX5_mix_r3 : List Cond := [Cond.static yX1_withPart, Cond.code yX1_withPart cX1_withPart 4 (some .int), Cond.methodLink RX1 7 yX1_partOf]
def wsX5_mix : List Cond := .code yX5_mix cX5_mix 5 (some .int) :: ((wsX5_mix_r1 ++ (wsX5_mix_r2 ++ wsX5_mix_r3)) ++ wsX50 ++ wsX00 ++ wsX30 ++ (vx_atS RX5 302 "java/lang/IndexOutOfBoundsException" ["java/lang/RuntimeException", "java/lang/Exception"]).filter goodWord ++ (vx_atS RX5 141 "java/lang/IllegalArgumentException" ["java/lang/RuntimeException", "java/lang/Exception"]).filter goodWord)
def wsX5_needPainter : List Cond := .code yX5_needPainter cX5_needPainter 1 none :: ([.classLink RX5 298 "java/lang/IndexOutOfBoundsException", .initialized "java/lang/IndexOutOfBoundsException"] ++ (vx_atS RX5 302 "java/lang/IndexOutOfBoundsException" ["java/lang/RuntimeException", "java/lang/Exception"]).filter goodWord)
def wsX5_painter_r1 : List Cond := [Cond.fieldLink RX5 19 "PotLabels" "memory" "LPotLabels$Memory;", Cond.fieldLink RX5 12 "PotLabels" "bureau" "LPotLabels$Bureau;", Cond.methodLink RX5 63 yX5_needPainter, Cond.static yX5_needPainter, Cond.initialized RX5, Cond.code yX5_needPainter cX5_needPainter 1 none, Cond.classLink RX5 298 "java/lang/IndexOutOfBoundsException", Cond.initialized "java/lang/IndexOutOfBoundsException", Cond.methodLink RX5 41 yX5_needWithin, Cond.static yX5_needWithin, Cond.code yX5_needWithin cX5_needWithin 3 none, Cond.classLink RX5 137 "java/lang/IllegalArgumentException", Cond.initialized "java/lang/IllegalArgumentException", Cond.methodLink RX5 45 yX3_save, Cond.instanceMethod yX3_save, Cond.selects RX3 yX3_save yX3_save, Cond.initialized RX3, Cond.code yX3_save cX3_save 2 none, Cond.fieldLink RX3 25 "PotLabels$Memory" "held" "I", Cond.fieldLink RX3 21 "PotLabels$Memory" "saved" "[LPotLabels$Bureau;", Cond.methodLink RX3 29 yX3_dropOldest, Cond.instanceMethod yX3_dropOldest, Cond.selects RX3 yX3_dropOldest yX3_dropOldest, Cond.code yX3_dropOldest cX3_dropOldest 3 none]
def wsX5_painter_r2 : List Cond := [Cond.methodLink RX3 32 yX0_copyFrom, Cond.instanceMethod yX0_copyFrom, Cond.selects RX0 yX0_copyFrom yX0_copyFrom, Cond.initialized RX0, Cond.code yX0_copyFrom cX0_copyFrom 2 none, Cond.fieldLink RX0 9 "PotLabels$Bureau" "colours" "[I", Cond.methodLink RX0 33 arraycopyName, Cond.native arraycopyName, Cond.static arraycopyName, Cond.initialized "java/lang/System", Cond.fieldLink RX0 15 "PotLabels$Bureau" "labels" "[I", Cond.fieldLink RX0 18 "PotLabels$Bureau" "kinds" "[I", Cond.fieldLink RX0 21 "PotLabels$Bureau" "sharpnesses" "[I", Cond.fieldLink RX0 24 "PotLabels$Bureau" "lenders" "[I", Cond.fieldLink RX0 27 "PotLabels$Bureau" "figures" "[I", Cond.fieldLink RX0 30 "PotLabels$Bureau" "grounds" "[I", Cond.fieldLink RX0 39 "PotLabels$Bureau" "charts" "I", Cond.fieldLink RX0 43 "PotLabels$Bureau" "corrections" "I", Cond.fieldLink RX0 46 "PotLabels$Bureau" "refusals" "I"]
def wsX5_painter : List Cond := .code yX5_painter cX5_painter 6 (some .int) :: ((wsX5_painter_r1 ++ wsX5_painter_r2) ++ wsX50 ++ wsX00 ++ wsX30 ++ (vx_atS RX5 302 "java/lang/IndexOutOfBoundsException" ["java/lang/RuntimeException", "java/lang/Exception"]).filter goodWord ++ (vx_atS RX5 141 "java/lang/IllegalArgumentException" ["java/lang/RuntimeException", "java/lang/Exception"]).filter goodWord)
def wsX5_borrow_r1 : List Cond := [Cond.fieldLink RX5 19 "PotLabels" "memory" "LPotLabels$Memory;", Cond.fieldLink RX5 12 "PotLabels" "bureau" "LPotLabels$Bureau;", Cond.methodLink RX5 63 yX5_needPainter, Cond.static yX5_needPainter, Cond.initialized RX5, Cond.code yX5_needPainter cX5_needPainter 1 none, Cond.classLink RX5 298 "java/lang/IndexOutOfBoundsException", Cond.initialized "java/lang/IndexOutOfBoundsException", Cond.methodLink RX5 45 yX3_save, Cond.instanceMethod yX3_save, Cond.selects RX3 yX3_save yX3_save, Cond.initialized RX3, Cond.code yX3_save cX3_save 2 none, Cond.fieldLink RX3 25 "PotLabels$Memory" "held" "I", Cond.fieldLink RX3 21 "PotLabels$Memory" "saved" "[LPotLabels$Bureau;", Cond.methodLink RX3 29 yX3_dropOldest, Cond.instanceMethod yX3_dropOldest, Cond.selects RX3 yX3_dropOldest yX3_dropOldest, Cond.code yX3_dropOldest cX3_dropOldest 3 none, Cond.methodLink RX3 32 yX0_copyFrom, Cond.instanceMethod yX0_copyFrom, Cond.selects RX0 yX0_copyFrom yX0_copyFrom, Cond.initialized RX0, Cond.code yX0_copyFrom cX0_copyFrom 2 none]
def wsX5_borrow_r2 : List Cond := [Cond.fieldLink RX0 9 "PotLabels$Bureau" "colours" "[I", Cond.methodLink RX0 33 arraycopyName, Cond.native arraycopyName, Cond.static arraycopyName, Cond.initialized "java/lang/System", Cond.fieldLink RX0 15 "PotLabels$Bureau" "labels" "[I", Cond.fieldLink RX0 18 "PotLabels$Bureau" "kinds" "[I", Cond.fieldLink RX0 21 "PotLabels$Bureau" "sharpnesses" "[I", Cond.fieldLink RX0 24 "PotLabels$Bureau" "lenders" "[I", Cond.fieldLink RX0 27 "PotLabels$Bureau" "figures" "[I", Cond.fieldLink RX0 30 "PotLabels$Bureau" "grounds" "[I", Cond.fieldLink RX0 39 "PotLabels$Bureau" "charts" "I", Cond.fieldLink RX0 43 "PotLabels$Bureau" "corrections" "I", Cond.fieldLink RX0 46 "PotLabels$Bureau" "refusals" "I"]
def wsX5_borrow : List Cond := .code yX5_borrow cX5_borrow 4 (some .int) :: ((wsX5_borrow_r1 ++ wsX5_borrow_r2) ++ wsX50 ++ wsX00 ++ wsX30 ++ (vx_atS RX5 302 "java/lang/IndexOutOfBoundsException" ["java/lang/RuntimeException", "java/lang/Exception"]).filter goodWord)
def wsX5_label_r1 : List Cond := [Cond.fieldLink RX5 19 "PotLabels" "memory" "LPotLabels$Memory;", Cond.fieldLink RX5 12 "PotLabels" "bureau" "LPotLabels$Bureau;", Cond.methodLink RX5 37 yX5_needPot, Cond.static yX5_needPot, Cond.initialized RX5, Cond.code yX5_needPot cX5_needPot 1 none, Cond.classLink RX5 298 "java/lang/IndexOutOfBoundsException", Cond.initialized "java/lang/IndexOutOfBoundsException", Cond.methodLink RX5 41 yX5_needWithin, Cond.static yX5_needWithin, Cond.code yX5_needWithin cX5_needWithin 3 none, Cond.classLink RX5 137 "java/lang/IllegalArgumentException", Cond.initialized "java/lang/IllegalArgumentException", Cond.methodLink RX5 45 yX3_save, Cond.instanceMethod yX3_save, Cond.selects RX3 yX3_save yX3_save, Cond.initialized RX3, Cond.code yX3_save cX3_save 2 none, Cond.fieldLink RX3 25 "PotLabels$Memory" "held" "I", Cond.fieldLink RX3 21 "PotLabels$Memory" "saved" "[LPotLabels$Bureau;", Cond.methodLink RX3 29 yX3_dropOldest, Cond.instanceMethod yX3_dropOldest, Cond.selects RX3 yX3_dropOldest yX3_dropOldest, Cond.code yX3_dropOldest cX3_dropOldest 3 none]
def wsX5_label_r2 : List Cond := [Cond.methodLink RX3 32 yX0_copyFrom, Cond.instanceMethod yX0_copyFrom, Cond.selects RX0 yX0_copyFrom yX0_copyFrom, Cond.initialized RX0, Cond.code yX0_copyFrom cX0_copyFrom 2 none, Cond.fieldLink RX0 9 "PotLabels$Bureau" "colours" "[I", Cond.methodLink RX0 33 arraycopyName, Cond.native arraycopyName, Cond.static arraycopyName, Cond.initialized "java/lang/System", Cond.fieldLink RX0 15 "PotLabels$Bureau" "labels" "[I", Cond.fieldLink RX0 18 "PotLabels$Bureau" "kinds" "[I", Cond.fieldLink RX0 21 "PotLabels$Bureau" "sharpnesses" "[I", Cond.fieldLink RX0 24 "PotLabels$Bureau" "lenders" "[I", Cond.fieldLink RX0 27 "PotLabels$Bureau" "figures" "[I", Cond.fieldLink RX0 30 "PotLabels$Bureau" "grounds" "[I", Cond.fieldLink RX0 39 "PotLabels$Bureau" "charts" "I", Cond.fieldLink RX0 43 "PotLabels$Bureau" "corrections" "I", Cond.fieldLink RX0 46 "PotLabels$Bureau" "refusals" "I"]
def wsX5_label : List Cond := .code yX5_label cX5_label 4 (some .int) :: ((wsX5_label_r1 ++ wsX5_label_r2) ++ wsX50 ++ wsX00 ++ wsX30 ++ (vx_atS RX5 302 "java/lang/IndexOutOfBoundsException" ["java/lang/RuntimeException", "java/lang/Exception"]).filter goodWord ++ (vx_atS RX5 141 "java/lang/IllegalArgumentException" ["java/lang/RuntimeException", "java/lang/Exception"]).filter goodWord)
def wsX5_labelAll_r1 : List Cond := [Cond.fieldLink RX5 19 "PotLabels" "memory" "LPotLabels$Memory;", Cond.fieldLink RX5 12 "PotLabels" "bureau" "LPotLabels$Bureau;", Cond.methodLink RX5 63 yX5_needPainter, Cond.static yX5_needPainter, Cond.initialized RX5, Cond.code yX5_needPainter cX5_needPainter 1 none, Cond.classLink RX5 298 "java/lang/IndexOutOfBoundsException", Cond.initialized "java/lang/IndexOutOfBoundsException", Cond.methodLink RX5 45 yX3_save, Cond.instanceMethod yX3_save, Cond.selects RX3 yX3_save yX3_save, Cond.initialized RX3, Cond.code yX3_save cX3_save 2 none, Cond.fieldLink RX3 25 "PotLabels$Memory" "held" "I", Cond.fieldLink RX3 21 "PotLabels$Memory" "saved" "[LPotLabels$Bureau;", Cond.methodLink RX3 29 yX3_dropOldest, Cond.instanceMethod yX3_dropOldest, Cond.selects RX3 yX3_dropOldest yX3_dropOldest, Cond.code yX3_dropOldest cX3_dropOldest 3 none, Cond.methodLink RX3 32 yX0_copyFrom, Cond.instanceMethod yX0_copyFrom, Cond.selects RX0 yX0_copyFrom yX0_copyFrom, Cond.initialized RX0, Cond.code yX0_copyFrom cX0_copyFrom 2 none]
def wsX5_labelAll_r2 : List Cond := [Cond.fieldLink RX0 9 "PotLabels$Bureau" "colours" "[I", Cond.methodLink RX0 33 arraycopyName, Cond.native arraycopyName, Cond.static arraycopyName, Cond.initialized "java/lang/System", Cond.fieldLink RX0 15 "PotLabels$Bureau" "labels" "[I", Cond.fieldLink RX0 18 "PotLabels$Bureau" "kinds" "[I", Cond.fieldLink RX0 21 "PotLabels$Bureau" "sharpnesses" "[I", Cond.fieldLink RX0 24 "PotLabels$Bureau" "lenders" "[I", Cond.fieldLink RX0 27 "PotLabels$Bureau" "figures" "[I", Cond.fieldLink RX0 30 "PotLabels$Bureau" "grounds" "[I", Cond.fieldLink RX0 39 "PotLabels$Bureau" "charts" "I", Cond.fieldLink RX0 43 "PotLabels$Bureau" "corrections" "I", Cond.fieldLink RX0 46 "PotLabels$Bureau" "refusals" "I", Cond.methodLink RX5 78 yX0_labelInOrder, Cond.instanceMethod yX0_labelInOrder, Cond.selects RX0 yX0_labelInOrder yX0_labelInOrder, Cond.code yX0_labelInOrder cX0_labelInOrder 5 none, Cond.methodLink RX0 69 yX0_tells, Cond.instanceMethod yX0_tells, Cond.selects RX0 yX0_tells yX0_tells, Cond.code yX0_tells cX0_tells 4 (some .boolean), Cond.methodLink RX0 49 yX0_tellsColours, Cond.instanceMethod yX0_tellsColours]
def wsX5_labelAll_r3 : List Cond := [Cond.selects RX0 yX0_tellsColours yX0_tellsColours, Cond.code yX0_tellsColours cX0_tellsColours 6 (some .boolean), Cond.methodLink RX0 53 yX1_distance, Cond.static yX1_distance, Cond.initialized RX1, Cond.code yX1_distance cX1_distance 5 (some .int), Cond.methodLink RX1 16 Lib.Math.abs.name, Cond.static Lib.Math.abs.name, Cond.initialized "java/lang/Math", Cond.code Lib.Math.abs.name Lib.Math.abs.code 1 (some .int), Cond.methodLink RX1 13 yX1_seenAs, Cond.static yX1_seenAs, Cond.code yX1_seenAs cX1_seenAs 5 (some .int), Cond.methodLink RX0 76 yX0_leastOutside, Cond.static yX0_leastOutside, Cond.code yX0_leastOutside cX0_leastOutside 2 (some .int), Cond.methodLink RX5 81 yX0_unlikeLabels, Cond.instanceMethod yX0_unlikeLabels, Cond.selects RX0 yX0_unlikeLabels yX0_unlikeLabels, Cond.code yX0_unlikeLabels cX0_unlikeLabels 3 (some .int), Cond.methodLink RX0 63 yJ6_bitCount_0f7a4, Cond.static yJ6_bitCount_0f7a4, Cond.initialized RJ6, Cond.code yJ6_bitCount_0f7a4 cJ6_bitCount_0f7a4 1 (some .int)]
def wsX5_labelAll_r4 : List Cond := [Cond.constant RJ6 265 (1431655765), Cond.constant RJ6 266 (858993459), Cond.constant RJ6 267 (252645135)]
def wsX5_labelAll : List Cond := .code yX5_labelAll cX5_labelAll 2 (some .int) :: ((wsX5_labelAll_r1 ++ (wsX5_labelAll_r2 ++ (wsX5_labelAll_r3 ++ wsX5_labelAll_r4))) ++ wsX50 ++ wsX30 ++ wsX00 ++ (vx_atS RX5 302 "java/lang/IndexOutOfBoundsException" ["java/lang/RuntimeException", "java/lang/Exception"]).filter goodWord)
def wsX5_needUnlike : List Cond := .code yX5_needUnlike cX5_needUnlike 2 none :: ([.classLink RX5 137 "java/lang/IllegalArgumentException", .initialized "java/lang/IllegalArgumentException"] ++ (vx_atS RX5 141 "java/lang/IllegalArgumentException" ["java/lang/RuntimeException", "java/lang/Exception"]).filter goodWord)
def wsX5_hang_r1 : List Cond := [Cond.fieldLink RX5 19 "PotLabels" "memory" "LPotLabels$Memory;", Cond.fieldLink RX5 12 "PotLabels" "bureau" "LPotLabels$Bureau;", Cond.methodLink RX5 37 yX5_needPot, Cond.static yX5_needPot, Cond.initialized RX5, Cond.code yX5_needPot cX5_needPot 1 none, Cond.classLink RX5 298 "java/lang/IndexOutOfBoundsException", Cond.initialized "java/lang/IndexOutOfBoundsException", Cond.methodLink RX5 85 yX5_needUnlike, Cond.static yX5_needUnlike, Cond.code yX5_needUnlike cX5_needUnlike 2 none, Cond.classLink RX5 137 "java/lang/IllegalArgumentException", Cond.initialized "java/lang/IllegalArgumentException", Cond.methodLink RX5 45 yX3_save, Cond.instanceMethod yX3_save, Cond.selects RX3 yX3_save yX3_save, Cond.initialized RX3, Cond.code yX3_save cX3_save 2 none, Cond.fieldLink RX3 25 "PotLabels$Memory" "held" "I", Cond.fieldLink RX3 21 "PotLabels$Memory" "saved" "[LPotLabels$Bureau;", Cond.methodLink RX3 29 yX3_dropOldest, Cond.instanceMethod yX3_dropOldest, Cond.selects RX3 yX3_dropOldest yX3_dropOldest, Cond.code yX3_dropOldest cX3_dropOldest 3 none]
def wsX5_hang_r2 : List Cond := [Cond.methodLink RX3 32 yX0_copyFrom, Cond.instanceMethod yX0_copyFrom, Cond.selects RX0 yX0_copyFrom yX0_copyFrom, Cond.initialized RX0, Cond.code yX0_copyFrom cX0_copyFrom 2 none, Cond.fieldLink RX0 9 "PotLabels$Bureau" "colours" "[I", Cond.methodLink RX0 33 arraycopyName, Cond.native arraycopyName, Cond.static arraycopyName, Cond.initialized "java/lang/System", Cond.fieldLink RX0 15 "PotLabels$Bureau" "labels" "[I", Cond.fieldLink RX0 18 "PotLabels$Bureau" "kinds" "[I", Cond.fieldLink RX0 21 "PotLabels$Bureau" "sharpnesses" "[I", Cond.fieldLink RX0 24 "PotLabels$Bureau" "lenders" "[I", Cond.fieldLink RX0 27 "PotLabels$Bureau" "figures" "[I", Cond.fieldLink RX0 30 "PotLabels$Bureau" "grounds" "[I", Cond.fieldLink RX0 39 "PotLabels$Bureau" "charts" "I", Cond.fieldLink RX0 43 "PotLabels$Bureau" "corrections" "I", Cond.fieldLink RX0 46 "PotLabels$Bureau" "refusals" "I", Cond.methodLink RX5 89 yX0_addChart, Cond.instanceMethod yX0_addChart, Cond.selects RX0 yX0_addChart yX0_addChart, Cond.code yX0_addChart cX0_addChart 3 (some .int)]
def wsX5_hang : List Cond := .code yX5_hang cX5_hang 3 (some .int) :: ((wsX5_hang_r1 ++ wsX5_hang_r2) ++ wsX50 ++ wsX30 ++ wsX00 ++ (vx_atS RX5 302 "java/lang/IndexOutOfBoundsException" ["java/lang/RuntimeException", "java/lang/Exception"]).filter goodWord ++ (vx_atS RX5 141 "java/lang/IllegalArgumentException" ["java/lang/RuntimeException", "java/lang/Exception"]).filter goodWord)
def wsX5_needChart : List Cond := .code yX5_needChart cX5_needChart 2 none :: ([.classLink RX5 298 "java/lang/IndexOutOfBoundsException", .initialized "java/lang/IndexOutOfBoundsException", .fieldLink RX5 12 "PotLabels" "bureau" "LPotLabels$Bureau;"] ++ wsX50 ++ wsX00 ++ (vx_atS RX5 302 "java/lang/IndexOutOfBoundsException" ["java/lang/RuntimeException", "java/lang/Exception"]).filter goodWord)
def wsX5_takeDown_r1 : List Cond := [Cond.fieldLink RX5 19 "PotLabels" "memory" "LPotLabels$Memory;", Cond.fieldLink RX5 12 "PotLabels" "bureau" "LPotLabels$Bureau;", Cond.methodLink RX5 92 yX5_needChart, Cond.instanceMethod yX5_needChart, Cond.selects RX5 yX5_needChart yX5_needChart, Cond.initialized RX5, Cond.code yX5_needChart cX5_needChart 2 none, Cond.classLink RX5 298 "java/lang/IndexOutOfBoundsException", Cond.initialized "java/lang/IndexOutOfBoundsException", Cond.methodLink RX5 45 yX3_save, Cond.instanceMethod yX3_save, Cond.selects RX3 yX3_save yX3_save, Cond.initialized RX3, Cond.code yX3_save cX3_save 2 none, Cond.fieldLink RX3 25 "PotLabels$Memory" "held" "I", Cond.fieldLink RX3 21 "PotLabels$Memory" "saved" "[LPotLabels$Bureau;", Cond.methodLink RX3 29 yX3_dropOldest, Cond.instanceMethod yX3_dropOldest, Cond.selects RX3 yX3_dropOldest yX3_dropOldest, Cond.code yX3_dropOldest cX3_dropOldest 3 none, Cond.methodLink RX3 32 yX0_copyFrom, Cond.instanceMethod yX0_copyFrom, Cond.selects RX0 yX0_copyFrom yX0_copyFrom, Cond.initialized RX0]
def wsX5_takeDown_r2 : List Cond := [Cond.code yX0_copyFrom cX0_copyFrom 2 none, Cond.fieldLink RX0 9 "PotLabels$Bureau" "colours" "[I", Cond.methodLink RX0 33 arraycopyName, Cond.native arraycopyName, Cond.static arraycopyName, Cond.initialized "java/lang/System", Cond.fieldLink RX0 15 "PotLabels$Bureau" "labels" "[I", Cond.fieldLink RX0 18 "PotLabels$Bureau" "kinds" "[I", Cond.fieldLink RX0 21 "PotLabels$Bureau" "sharpnesses" "[I", Cond.fieldLink RX0 24 "PotLabels$Bureau" "lenders" "[I", Cond.fieldLink RX0 27 "PotLabels$Bureau" "figures" "[I", Cond.fieldLink RX0 30 "PotLabels$Bureau" "grounds" "[I", Cond.fieldLink RX0 39 "PotLabels$Bureau" "charts" "I", Cond.fieldLink RX0 43 "PotLabels$Bureau" "corrections" "I", Cond.fieldLink RX0 46 "PotLabels$Bureau" "refusals" "I", Cond.methodLink RX5 95 yX0_readersOf, Cond.instanceMethod yX0_readersOf, Cond.selects RX0 yX0_readersOf yX0_readersOf, Cond.code yX0_readersOf cX0_readersOf 2 (some .int), Cond.methodLink RX0 59 yX0_tellersOfPair, Cond.instanceMethod yX0_tellersOfPair, Cond.selects RX0 yX0_tellersOfPair yX0_tellersOfPair, Cond.code yX0_tellersOfPair cX0_tellersOfPair 5 (some .int), Cond.methodLink RX0 49 yX0_tellsColours]
def wsX5_takeDown_r3 : List Cond := [Cond.instanceMethod yX0_tellsColours, Cond.selects RX0 yX0_tellsColours yX0_tellsColours, Cond.code yX0_tellsColours cX0_tellsColours 6 (some .boolean), Cond.methodLink RX0 53 yX1_distance, Cond.static yX1_distance, Cond.initialized RX1, Cond.code yX1_distance cX1_distance 5 (some .int), Cond.methodLink RX1 16 Lib.Math.abs.name, Cond.static Lib.Math.abs.name, Cond.initialized "java/lang/Math", Cond.code Lib.Math.abs.name Lib.Math.abs.code 1 (some .int), Cond.methodLink RX1 13 yX1_seenAs, Cond.static yX1_seenAs, Cond.code yX1_seenAs cX1_seenAs 5 (some .int), Cond.methodLink RX5 99 yJ6_bitCount_0f7a4, Cond.static yJ6_bitCount_0f7a4, Cond.initialized RJ6, Cond.code yJ6_bitCount_0f7a4 cJ6_bitCount_0f7a4 1 (some .int), Cond.constant RJ6 265 (1431655765), Cond.constant RJ6 266 (858993459), Cond.constant RJ6 267 (252645135), Cond.methodLink RX5 104 yX0_removeChart, Cond.instanceMethod yX0_removeChart, Cond.selects RX0 yX0_removeChart yX0_removeChart]
def wsX5_takeDown_r4 : List Cond := [Cond.code yX0_removeChart cX0_removeChart 3 none]
def wsX5_takeDown : List Cond := .code yX5_takeDown cX5_takeDown 3 (some .int) :: ((wsX5_takeDown_r1 ++ (wsX5_takeDown_r2 ++ (wsX5_takeDown_r3 ++ wsX5_takeDown_r4))) ++ wsX50 ++ wsX00 ++ wsX30 ++ (vx_atS RX5 302 "java/lang/IndexOutOfBoundsException" ["java/lang/RuntimeException", "java/lang/Exception"]).filter goodWord)
def wsX5_correct_r1 : List Cond := [Cond.fieldLink RX5 19 "PotLabels" "memory" "LPotLabels$Memory;", Cond.fieldLink RX5 12 "PotLabels" "bureau" "LPotLabels$Bureau;", Cond.methodLink RX5 92 yX5_needChart, Cond.instanceMethod yX5_needChart, Cond.selects RX5 yX5_needChart yX5_needChart, Cond.initialized RX5, Cond.code yX5_needChart cX5_needChart 2 none, Cond.classLink RX5 298 "java/lang/IndexOutOfBoundsException", Cond.initialized "java/lang/IndexOutOfBoundsException", Cond.methodLink RX5 63 yX5_needPainter, Cond.static yX5_needPainter, Cond.code yX5_needPainter cX5_needPainter 1 none, Cond.methodLink RX5 45 yX3_save, Cond.instanceMethod yX3_save, Cond.selects RX3 yX3_save yX3_save, Cond.initialized RX3, Cond.code yX3_save cX3_save 2 none, Cond.fieldLink RX3 25 "PotLabels$Memory" "held" "I", Cond.fieldLink RX3 21 "PotLabels$Memory" "saved" "[LPotLabels$Bureau;", Cond.methodLink RX3 29 yX3_dropOldest, Cond.instanceMethod yX3_dropOldest, Cond.selects RX3 yX3_dropOldest yX3_dropOldest, Cond.code yX3_dropOldest cX3_dropOldest 3 none, Cond.methodLink RX3 32 yX0_copyFrom]
def wsX5_correct_r2 : List Cond := [Cond.instanceMethod yX0_copyFrom, Cond.selects RX0 yX0_copyFrom yX0_copyFrom, Cond.initialized RX0, Cond.code yX0_copyFrom cX0_copyFrom 2 none, Cond.fieldLink RX0 9 "PotLabels$Bureau" "colours" "[I", Cond.methodLink RX0 33 arraycopyName, Cond.native arraycopyName, Cond.static arraycopyName, Cond.initialized "java/lang/System", Cond.fieldLink RX0 15 "PotLabels$Bureau" "labels" "[I", Cond.fieldLink RX0 18 "PotLabels$Bureau" "kinds" "[I", Cond.fieldLink RX0 21 "PotLabels$Bureau" "sharpnesses" "[I", Cond.fieldLink RX0 24 "PotLabels$Bureau" "lenders" "[I", Cond.fieldLink RX0 27 "PotLabels$Bureau" "figures" "[I", Cond.fieldLink RX0 30 "PotLabels$Bureau" "grounds" "[I", Cond.fieldLink RX0 39 "PotLabels$Bureau" "charts" "I", Cond.fieldLink RX0 43 "PotLabels$Bureau" "corrections" "I", Cond.fieldLink RX0 46 "PotLabels$Bureau" "refusals" "I", Cond.methodLink RX5 107 yX0_makeReadable, Cond.instanceMethod yX0_makeReadable, Cond.selects RX0 yX0_makeReadable yX0_makeReadable, Cond.code yX0_makeReadable cX0_makeReadable 6 (some .int), Cond.methodLink RX0 79 yX0_nearestColour, Cond.instanceMethod yX0_nearestColour]
def wsX5_correct_r3 : List Cond := [Cond.selects RX0 yX0_nearestColour yX0_nearestColour, Cond.code yX0_nearestColour cX0_nearestColour 8 (some .int), Cond.methodLink RX0 82 yX1_change, Cond.static yX1_change, Cond.initialized RX1, Cond.code yX1_change cX1_change 2 (some .int), Cond.methodLink RX1 22 yX1_distance, Cond.static yX1_distance, Cond.code yX1_distance cX1_distance 5 (some .int), Cond.methodLink RX1 16 Lib.Math.abs.name, Cond.static Lib.Math.abs.name, Cond.initialized "java/lang/Math", Cond.code Lib.Math.abs.name Lib.Math.abs.code 1 (some .int), Cond.methodLink RX1 13 yX1_seenAs, Cond.static yX1_seenAs, Cond.code yX1_seenAs cX1_seenAs 5 (some .int), Cond.methodLink RX0 49 yX0_tellsColours, Cond.instanceMethod yX0_tellsColours, Cond.selects RX0 yX0_tellsColours yX0_tellsColours, Cond.code yX0_tellsColours cX0_tellsColours 6 (some .boolean), Cond.methodLink RX0 53 yX1_distance]
def wsX5_correct : List Cond := .code yX5_correct cX5_correct 3 (some .int) :: ((wsX5_correct_r1 ++ (wsX5_correct_r2 ++ wsX5_correct_r3)) ++ wsX50 ++ wsX00 ++ wsX30 ++ (vx_atS RX5 302 "java/lang/IndexOutOfBoundsException" ["java/lang/RuntimeException", "java/lang/Exception"]).filter goodWord)
def wsX5_append : List Cond := .code yX5_append cX5_append 2 (some .int) :: ([.classLink RX5 114 "java/lang/IllegalStateException", .initialized "java/lang/IllegalStateException", .fieldLink RX5 26 "PotLabels" "text" "LPotLabels$Text;", .methodLink RX5 41 yX5_needWithin, .static yX5_needWithin, .initialized RX5, .code yX5_needWithin cX5_needWithin 3 none, .classLink RX5 137 "java/lang/IllegalArgumentException", .initialized "java/lang/IllegalArgumentException", .methodLink RX5 110 yX4_isFull, .instanceMethod yX4_isFull, .selects RX4 yX4_isFull yX4_isFull, .initialized RX4, .code yX4_isFull cX4_isFull 1 (some .boolean), .fieldLink RX4 15 "PotLabels$Text" "length" "I", .methodLink RX5 121 yX4_add, .instanceMethod yX4_add, .selects RX4 yX4_add yX4_add, .code yX4_add cX4_add 2 none, .fieldLink RX4 9 "PotLabels$Text" "codes" "[I"] ++ wsX50 ++ wsX40 ++ (vx_atS RX5 118 "java/lang/IllegalStateException" ["java/lang/RuntimeException", "java/lang/Exception"]).filter goodWord ++ (vx_atS RX5 141 "java/lang/IllegalArgumentException" ["java/lang/RuntimeException", "java/lang/Exception"]).filter goodWord)
def wsX5_clearBuffer : List Cond := .code yX5_clearBuffer cX5_clearBuffer 2 (some .int) :: ([.fieldLink RX5 26 "PotLabels" "text" "LPotLabels$Text;", .methodLink RX5 128 yX4_clear, .instanceMethod yX4_clear, .selects RX4 yX4_clear yX4_clear, .initialized RX4, .code yX4_clear cX4_clear 1 none, .fieldLink RX4 15 "PotLabels$Text" "length" "I"] ++ wsX50 ++ wsX40)
def wsX5_load_r1 : List Cond := [Cond.classLink RX5 137 "java/lang/IllegalArgumentException", Cond.initialized "java/lang/IllegalArgumentException", Cond.fieldLink RX5 26 "PotLabels" "text" "LPotLabels$Text;", Cond.fieldLink RX5 19 "PotLabels" "memory" "LPotLabels$Memory;", Cond.fieldLink RX5 12 "PotLabels" "bureau" "LPotLabels$Bureau;", Cond.methodLink RX5 134 yX4_tellsPots, Cond.instanceMethod yX4_tellsPots, Cond.selects RX4 yX4_tellsPots yX4_tellsPots, Cond.initialized RX4, Cond.code yX4_tellsPots cX4_tellsPots 1 (some .boolean), Cond.fieldLink RX4 15 "PotLabels$Text" "length" "I", Cond.methodLink RX4 23 yX4_firstWrong, Cond.instanceMethod yX4_firstWrong, Cond.selects RX4 yX4_firstWrong yX4_firstWrong, Cond.code yX4_firstWrong cX4_firstWrong 2 (some .int), Cond.fieldLink RX4 9 "PotLabels$Text" "codes" "[I", Cond.methodLink RX4 19 yX4_fits, Cond.static yX4_fits, Cond.code yX4_fits cX4_fits 2 (some .boolean), Cond.methodLink RX5 45 yX3_save, Cond.instanceMethod yX3_save, Cond.selects RX3 yX3_save yX3_save, Cond.initialized RX3, Cond.code yX3_save cX3_save 2 none]
def wsX5_load_r2 : List Cond := [Cond.fieldLink RX3 25 "PotLabels$Memory" "held" "I", Cond.fieldLink RX3 21 "PotLabels$Memory" "saved" "[LPotLabels$Bureau;", Cond.methodLink RX3 29 yX3_dropOldest, Cond.instanceMethod yX3_dropOldest, Cond.selects RX3 yX3_dropOldest yX3_dropOldest, Cond.code yX3_dropOldest cX3_dropOldest 3 none, Cond.methodLink RX3 32 yX0_copyFrom, Cond.instanceMethod yX0_copyFrom, Cond.selects RX0 yX0_copyFrom yX0_copyFrom, Cond.initialized RX0, Cond.code yX0_copyFrom cX0_copyFrom 2 none, Cond.fieldLink RX0 9 "PotLabels$Bureau" "colours" "[I", Cond.methodLink RX0 33 arraycopyName, Cond.native arraycopyName, Cond.static arraycopyName, Cond.initialized "java/lang/System", Cond.fieldLink RX0 15 "PotLabels$Bureau" "labels" "[I", Cond.fieldLink RX0 18 "PotLabels$Bureau" "kinds" "[I", Cond.fieldLink RX0 21 "PotLabels$Bureau" "sharpnesses" "[I", Cond.fieldLink RX0 24 "PotLabels$Bureau" "lenders" "[I", Cond.fieldLink RX0 27 "PotLabels$Bureau" "figures" "[I", Cond.fieldLink RX0 30 "PotLabels$Bureau" "grounds" "[I", Cond.fieldLink RX0 39 "PotLabels$Bureau" "charts" "I", Cond.fieldLink RX0 43 "PotLabels$Bureau" "corrections" "I"]
def wsX5_load_r3 : List Cond := [Cond.fieldLink RX0 46 "PotLabels$Bureau" "refusals" "I", Cond.methodLink RX5 142 yX4_giveColours, Cond.instanceMethod yX4_giveColours, Cond.selects RX4 yX4_giveColours yX4_giveColours, Cond.code yX4_giveColours cX4_giveColours 4 none, Cond.methodLink RX5 128 yX4_clear, Cond.instanceMethod yX4_clear, Cond.selects RX4 yX4_clear yX4_clear, Cond.code yX4_clear cX4_clear 1 none, Cond.methodLink RX5 145 yX0_pairsTold, Cond.instanceMethod yX0_pairsTold, Cond.selects RX0 yX0_pairsTold yX0_pairsTold, Cond.code yX0_pairsTold cX0_pairsTold 6 (some .int), Cond.methodLink RX0 49 yX0_tellsColours, Cond.instanceMethod yX0_tellsColours, Cond.selects RX0 yX0_tellsColours yX0_tellsColours, Cond.code yX0_tellsColours cX0_tellsColours 6 (some .boolean), Cond.methodLink RX0 53 yX1_distance, Cond.static yX1_distance, Cond.initialized RX1, Cond.code yX1_distance cX1_distance 5 (some .int), Cond.methodLink RX1 16 Lib.Math.abs.name, Cond.static Lib.Math.abs.name, Cond.initialized "java/lang/Math"]
def wsX5_load_r4 : List Cond := [Cond.code Lib.Math.abs.name Lib.Math.abs.code 1 (some .int), Cond.methodLink RX1 13 yX1_seenAs, Cond.static yX1_seenAs, Cond.code yX1_seenAs cX1_seenAs 5 (some .int)]
def wsX5_load : List Cond := .code yX5_load cX5_load 1 (some .int) :: ((wsX5_load_r1 ++ (wsX5_load_r2 ++ (wsX5_load_r3 ++ wsX5_load_r4))) ++ wsX50 ++ wsX00 ++ wsX40 ++ wsX30 ++ (vx_atS RX5 141 "java/lang/IllegalArgumentException" ["java/lang/RuntimeException", "java/lang/Exception"]).filter goodWord)
def wsX5_undo_r1 : List Cond := [Cond.classLink RX5 114 "java/lang/IllegalStateException", Cond.initialized "java/lang/IllegalStateException", Cond.fieldLink RX5 19 "PotLabels" "memory" "LPotLabels$Memory;", Cond.fieldLink RX5 12 "PotLabels" "bureau" "LPotLabels$Bureau;", Cond.methodLink RX5 169 yX3_restore, Cond.instanceMethod yX3_restore, Cond.selects RX3 yX3_restore yX3_restore, Cond.initialized RX3, Cond.code yX3_restore cX3_restore 2 none, Cond.fieldLink RX3 25 "PotLabels$Memory" "held" "I", Cond.fieldLink RX3 21 "PotLabels$Memory" "saved" "[LPotLabels$Bureau;", Cond.methodLink RX3 32 yX0_copyFrom, Cond.instanceMethod yX0_copyFrom, Cond.selects RX0 yX0_copyFrom yX0_copyFrom, Cond.initialized RX0, Cond.code yX0_copyFrom cX0_copyFrom 2 none, Cond.fieldLink RX0 9 "PotLabels$Bureau" "colours" "[I", Cond.methodLink RX0 33 arraycopyName, Cond.native arraycopyName, Cond.static arraycopyName, Cond.initialized "java/lang/System", Cond.fieldLink RX0 15 "PotLabels$Bureau" "labels" "[I", Cond.fieldLink RX0 18 "PotLabels$Bureau" "kinds" "[I", Cond.fieldLink RX0 21 "PotLabels$Bureau" "sharpnesses" "[I"]
def wsX5_undo_r2 : List Cond := [Cond.fieldLink RX0 24 "PotLabels$Bureau" "lenders" "[I", Cond.fieldLink RX0 27 "PotLabels$Bureau" "figures" "[I", Cond.fieldLink RX0 30 "PotLabels$Bureau" "grounds" "[I", Cond.fieldLink RX0 39 "PotLabels$Bureau" "charts" "I", Cond.fieldLink RX0 43 "PotLabels$Bureau" "corrections" "I", Cond.fieldLink RX0 46 "PotLabels$Bureau" "refusals" "I"]
def wsX5_undo : List Cond := .code yX5_undo cX5_undo 1 (some .int) :: ((wsX5_undo_r1 ++ wsX5_undo_r2) ++ wsX50 ++ wsX30 ++ wsX00 ++ (vx_atS RX5 118 "java/lang/IllegalStateException" ["java/lang/RuntimeException", "java/lang/Exception"]).filter goodWord)
def wsX5_potOf_r1 : List Cond := [Cond.fieldLink RX5 12 "PotLabels" "bureau" "LPotLabels$Bureau;", Cond.methodLink RX5 37 yX5_needPot, Cond.static yX5_needPot, Cond.initialized RX5, Cond.code yX5_needPot cX5_needPot 1 none, Cond.classLink RX5 298 "java/lang/IndexOutOfBoundsException", Cond.initialized "java/lang/IndexOutOfBoundsException", Cond.methodLink RX5 41 yX5_needWithin, Cond.static yX5_needWithin, Cond.code yX5_needWithin cX5_needWithin 3 none, Cond.classLink RX5 137 "java/lang/IllegalArgumentException", Cond.initialized "java/lang/IllegalArgumentException", Cond.methodLink RX5 53 yX1_partOf, Cond.static yX1_partOf, Cond.initialized RX1, Cond.code yX1_partOf cX1_partOf 2 (some .int), Cond.methodLink RX5 172 yX0_tellersOf, Cond.instanceMethod yX0_tellersOf, Cond.selects RX0 yX0_tellersOf yX0_tellersOf, Cond.initialized RX0, Cond.code yX0_tellersOf cX0_tellersOf 4 (some .int), Cond.methodLink RX0 59 yX0_tellersOfPair, Cond.instanceMethod yX0_tellersOfPair, Cond.selects RX0 yX0_tellersOfPair yX0_tellersOfPair]
def wsX5_potOf_r2 : List Cond := [Cond.code yX0_tellersOfPair cX0_tellersOfPair 5 (some .int), Cond.fieldLink RX0 24 "PotLabels$Bureau" "lenders" "[I", Cond.fieldLink RX0 9 "PotLabels$Bureau" "colours" "[I", Cond.methodLink RX0 49 yX0_tellsColours, Cond.instanceMethod yX0_tellsColours, Cond.selects RX0 yX0_tellsColours yX0_tellsColours, Cond.code yX0_tellsColours cX0_tellsColours 6 (some .boolean), Cond.fieldLink RX0 21 "PotLabels$Bureau" "sharpnesses" "[I", Cond.fieldLink RX0 18 "PotLabels$Bureau" "kinds" "[I", Cond.methodLink RX0 53 yX1_distance, Cond.static yX1_distance, Cond.code yX1_distance cX1_distance 5 (some .int), Cond.methodLink RX1 16 Lib.Math.abs.name, Cond.static Lib.Math.abs.name, Cond.initialized "java/lang/Math", Cond.code Lib.Math.abs.name Lib.Math.abs.code 1 (some .int), Cond.methodLink RX1 13 yX1_seenAs, Cond.static yX1_seenAs, Cond.code yX1_seenAs cX1_seenAs 5 (some .int)]
def wsX5_potOf : List Cond := .code yX5_potOf cX5_potOf 3 (some .int) :: ((wsX5_potOf_r1 ++ wsX5_potOf_r2) ++ wsX50 ++ wsX00 ++ (vx_atS RX5 302 "java/lang/IndexOutOfBoundsException" ["java/lang/RuntimeException", "java/lang/Exception"]).filter goodWord ++ (vx_atS RX5 141 "java/lang/IllegalArgumentException" ["java/lang/RuntimeException", "java/lang/Exception"]).filter goodWord)
def wsX5_seen : List Cond := .code yX5_seen cX5_seen 3 (some .int) :: ([.fieldLink RX5 12 "PotLabels" "bureau" "LPotLabels$Bureau;", .methodLink RX5 63 yX5_needPainter, .static yX5_needPainter, .initialized RX5, .code yX5_needPainter cX5_needPainter 1 none, .classLink RX5 298 "java/lang/IndexOutOfBoundsException", .initialized "java/lang/IndexOutOfBoundsException", .methodLink RX5 37 yX5_needPot, .static yX5_needPot, .code yX5_needPot cX5_needPot 1 none, .methodLink RX5 175 yX1_seenAs, .static yX1_seenAs, .initialized RX1, .code yX1_seenAs cX1_seenAs 5 (some .int)] ++ wsX50 ++ wsX00 ++ (vx_atS RX5 302 "java/lang/IndexOutOfBoundsException" ["java/lang/RuntimeException", "java/lang/Exception"]).filter goodWord)
def wsX5_painterOf_r1 : List Cond := [Cond.classLink RX5 137 "java/lang/IllegalArgumentException", Cond.initialized "java/lang/IllegalArgumentException", Cond.fieldLink RX5 12 "PotLabels" "bureau" "LPotLabels$Bureau;", Cond.methodLink RX5 63 yX5_needPainter, Cond.static yX5_needPainter, Cond.initialized RX5, Cond.code yX5_needPainter cX5_needPainter 1 none, Cond.classLink RX5 298 "java/lang/IndexOutOfBoundsException", Cond.initialized "java/lang/IndexOutOfBoundsException", Cond.methodLink RX5 145 yX0_pairsTold, Cond.instanceMethod yX0_pairsTold, Cond.selects RX0 yX0_pairsTold yX0_pairsTold, Cond.initialized RX0, Cond.code yX0_pairsTold cX0_pairsTold 6 (some .int), Cond.fieldLink RX0 9 "PotLabels$Bureau" "colours" "[I", Cond.methodLink RX0 49 yX0_tellsColours, Cond.instanceMethod yX0_tellsColours, Cond.selects RX0 yX0_tellsColours yX0_tellsColours, Cond.code yX0_tellsColours cX0_tellsColours 6 (some .boolean), Cond.fieldLink RX0 21 "PotLabels$Bureau" "sharpnesses" "[I", Cond.fieldLink RX0 18 "PotLabels$Bureau" "kinds" "[I", Cond.methodLink RX0 53 yX1_distance, Cond.static yX1_distance, Cond.initialized RX1]
def wsX5_painterOf_r2 : List Cond := [Cond.code yX1_distance cX1_distance 5 (some .int), Cond.methodLink RX1 16 Lib.Math.abs.name, Cond.static Lib.Math.abs.name, Cond.initialized "java/lang/Math", Cond.code Lib.Math.abs.name Lib.Math.abs.code 1 (some .int), Cond.methodLink RX1 13 yX1_seenAs, Cond.static yX1_seenAs, Cond.code yX1_seenAs cX1_seenAs 5 (some .int), Cond.methodLink RX5 178 yX0_wrongPairs, Cond.instanceMethod yX0_wrongPairs, Cond.selects RX0 yX0_wrongPairs yX0_wrongPairs, Cond.code yX0_wrongPairs cX0_wrongPairs 5 (some .int), Cond.fieldLink RX0 15 "PotLabels$Bureau" "labels" "[I", Cond.methodLink RX0 69 yX0_tells, Cond.instanceMethod yX0_tells, Cond.selects RX0 yX0_tells yX0_tells, Cond.code yX0_tells cX0_tells 4 (some .boolean), Cond.fieldLink RX0 24 "PotLabels$Bureau" "lenders" "[I", Cond.methodLink RX5 181 yX0_chartsRead, Cond.instanceMethod yX0_chartsRead, Cond.selects RX0 yX0_chartsRead yX0_chartsRead, Cond.code yX0_chartsRead cX0_chartsRead 4 (some .int), Cond.fieldLink RX0 39 "PotLabels$Bureau" "charts" "I", Cond.fieldLink RX0 27 "PotLabels$Bureau" "figures" "[I"]
def wsX5_painterOf_r3 : List Cond := [Cond.fieldLink RX0 30 "PotLabels$Bureau" "grounds" "[I"]
def wsX5_painterOf : List Cond := .code yX5_painterOf cX5_painterOf 3 (some .int) :: ((wsX5_painterOf_r1 ++ (wsX5_painterOf_r2 ++ wsX5_painterOf_r3)) ++ wsX50 ++ wsX00 ++ (vx_atS RX5 141 "java/lang/IllegalArgumentException" ["java/lang/RuntimeException", "java/lang/Exception"]).filter goodWord ++ (vx_atS RX5 302 "java/lang/IndexOutOfBoundsException" ["java/lang/RuntimeException", "java/lang/Exception"]).filter goodWord)
def wsX5_apart_r1 : List Cond := [Cond.fieldLink RX5 12 "PotLabels" "bureau" "LPotLabels$Bureau;", Cond.methodLink RX5 63 yX5_needPainter, Cond.static yX5_needPainter, Cond.initialized RX5, Cond.code yX5_needPainter cX5_needPainter 1 none, Cond.classLink RX5 298 "java/lang/IndexOutOfBoundsException", Cond.initialized "java/lang/IndexOutOfBoundsException", Cond.methodLink RX5 37 yX5_needPot, Cond.static yX5_needPot, Cond.code yX5_needPot cX5_needPot 1 none, Cond.methodLink RX5 186 yX0_tells, Cond.instanceMethod yX0_tells, Cond.selects RX0 yX0_tells yX0_tells, Cond.initialized RX0, Cond.code yX0_tells cX0_tells 4 (some .boolean), Cond.fieldLink RX0 24 "PotLabels$Bureau" "lenders" "[I", Cond.fieldLink RX0 9 "PotLabels$Bureau" "colours" "[I", Cond.methodLink RX0 49 yX0_tellsColours, Cond.instanceMethod yX0_tellsColours, Cond.selects RX0 yX0_tellsColours yX0_tellsColours, Cond.code yX0_tellsColours cX0_tellsColours 6 (some .boolean), Cond.fieldLink RX0 21 "PotLabels$Bureau" "sharpnesses" "[I", Cond.fieldLink RX0 18 "PotLabels$Bureau" "kinds" "[I", Cond.methodLink RX0 53 yX1_distance]
def wsX5_apart_r2 : List Cond := [Cond.static yX1_distance, Cond.initialized RX1, Cond.code yX1_distance cX1_distance 5 (some .int), Cond.methodLink RX1 16 Lib.Math.abs.name, Cond.static Lib.Math.abs.name, Cond.initialized "java/lang/Math", Cond.code Lib.Math.abs.name Lib.Math.abs.code 1 (some .int), Cond.methodLink RX1 13 yX1_seenAs, Cond.static yX1_seenAs, Cond.code yX1_seenAs cX1_seenAs 5 (some .int)]
def wsX5_apart : List Cond := .code yX5_apart cX5_apart 4 (some .int) :: ((wsX5_apart_r1 ++ wsX5_apart_r2) ++ wsX50 ++ wsX00 ++ (vx_atS RX5 302 "java/lang/IndexOutOfBoundsException" ["java/lang/RuntimeException", "java/lang/Exception"]).filter goodWord)
def wsX5_chartOf_r1 : List Cond := [Cond.classLink RX5 137 "java/lang/IllegalArgumentException", Cond.initialized "java/lang/IllegalArgumentException", Cond.fieldLink RX5 12 "PotLabels" "bureau" "LPotLabels$Bureau;", Cond.methodLink RX5 92 yX5_needChart, Cond.instanceMethod yX5_needChart, Cond.selects RX5 yX5_needChart yX5_needChart, Cond.initialized RX5, Cond.code yX5_needChart cX5_needChart 2 none, Cond.classLink RX5 298 "java/lang/IndexOutOfBoundsException", Cond.initialized "java/lang/IndexOutOfBoundsException", Cond.methodLink RX5 95 yX0_readersOf, Cond.instanceMethod yX0_readersOf, Cond.selects RX0 yX0_readersOf yX0_readersOf, Cond.initialized RX0, Cond.code yX0_readersOf cX0_readersOf 2 (some .int), Cond.fieldLink RX0 27 "PotLabels$Bureau" "figures" "[I", Cond.fieldLink RX0 30 "PotLabels$Bureau" "grounds" "[I", Cond.methodLink RX0 59 yX0_tellersOfPair, Cond.instanceMethod yX0_tellersOfPair, Cond.selects RX0 yX0_tellersOfPair yX0_tellersOfPair, Cond.code yX0_tellersOfPair cX0_tellersOfPair 5 (some .int), Cond.fieldLink RX0 24 "PotLabels$Bureau" "lenders" "[I", Cond.fieldLink RX0 9 "PotLabels$Bureau" "colours" "[I", Cond.methodLink RX0 49 yX0_tellsColours]
def wsX5_chartOf_r2 : List Cond := [Cond.instanceMethod yX0_tellsColours, Cond.selects RX0 yX0_tellsColours yX0_tellsColours, Cond.code yX0_tellsColours cX0_tellsColours 6 (some .boolean), Cond.fieldLink RX0 21 "PotLabels$Bureau" "sharpnesses" "[I", Cond.fieldLink RX0 18 "PotLabels$Bureau" "kinds" "[I", Cond.methodLink RX0 53 yX1_distance, Cond.static yX1_distance, Cond.initialized RX1, Cond.code yX1_distance cX1_distance 5 (some .int), Cond.methodLink RX1 16 Lib.Math.abs.name, Cond.static Lib.Math.abs.name, Cond.initialized "java/lang/Math", Cond.code Lib.Math.abs.name Lib.Math.abs.code 1 (some .int), Cond.methodLink RX1 13 yX1_seenAs, Cond.static yX1_seenAs, Cond.code yX1_seenAs cX1_seenAs 5 (some .int)]
def wsX5_chartOf : List Cond := .code yX5_chartOf cX5_chartOf 3 (some .int) :: ((wsX5_chartOf_r1 ++ wsX5_chartOf_r2) ++ wsX50 ++ wsX00 ++ (vx_atS RX5 141 "java/lang/IllegalArgumentException" ["java/lang/RuntimeException", "java/lang/Exception"]).filter goodWord ++ (vx_atS RX5 302 "java/lang/IndexOutOfBoundsException" ["java/lang/RuntimeException", "java/lang/Exception"]).filter goodWord)
def wsX5_count_r1 : List Cond := [Cond.classLink RX5 137 "java/lang/IllegalArgumentException", Cond.initialized "java/lang/IllegalArgumentException", Cond.fieldLink RX5 12 "PotLabels" "bureau" "LPotLabels$Bureau;", Cond.fieldLink RX5 19 "PotLabels" "memory" "LPotLabels$Memory;", Cond.methodLink RX5 159 yX0_labelled, Cond.instanceMethod yX0_labelled, Cond.selects RX0 yX0_labelled yX0_labelled, Cond.initialized RX0, Cond.code yX0_labelled cX0_labelled 3 (some .int), Cond.fieldLink RX0 15 "PotLabels$Bureau" "labels" "[I", Cond.methodLink RX5 81 yX0_unlikeLabels, Cond.instanceMethod yX0_unlikeLabels, Cond.selects RX0 yX0_unlikeLabels yX0_unlikeLabels, Cond.code yX0_unlikeLabels cX0_unlikeLabels 3 (some .int), Cond.methodLink RX0 63 yJ6_bitCount_0f7a4, Cond.static yJ6_bitCount_0f7a4, Cond.initialized RJ6, Cond.code yJ6_bitCount_0f7a4 cJ6_bitCount_0f7a4 1 (some .int), Cond.constant RJ6 265 (1431655765), Cond.constant RJ6 266 (858993459), Cond.constant RJ6 267 (252645135), Cond.methodLink RX5 201 yX0_pairsToldByNobody, Cond.instanceMethod yX0_pairsToldByNobody, Cond.selects RX0 yX0_pairsToldByNobody yX0_pairsToldByNobody]
def wsX5_count_r2 : List Cond := [Cond.code yX0_pairsToldByNobody cX0_pairsToldByNobody 4 (some .int), Cond.methodLink RX0 59 yX0_tellersOfPair, Cond.instanceMethod yX0_tellersOfPair, Cond.selects RX0 yX0_tellersOfPair yX0_tellersOfPair, Cond.code yX0_tellersOfPair cX0_tellersOfPair 5 (some .int), Cond.fieldLink RX0 24 "PotLabels$Bureau" "lenders" "[I", Cond.fieldLink RX0 9 "PotLabels$Bureau" "colours" "[I", Cond.methodLink RX0 49 yX0_tellsColours, Cond.instanceMethod yX0_tellsColours, Cond.selects RX0 yX0_tellsColours yX0_tellsColours, Cond.code yX0_tellsColours cX0_tellsColours 6 (some .boolean), Cond.fieldLink RX0 21 "PotLabels$Bureau" "sharpnesses" "[I", Cond.fieldLink RX0 18 "PotLabels$Bureau" "kinds" "[I", Cond.methodLink RX0 53 yX1_distance, Cond.static yX1_distance, Cond.initialized RX1, Cond.code yX1_distance cX1_distance 5 (some .int), Cond.methodLink RX1 16 Lib.Math.abs.name, Cond.static Lib.Math.abs.name, Cond.initialized "java/lang/Math", Cond.code Lib.Math.abs.name Lib.Math.abs.code 1 (some .int), Cond.methodLink RX1 13 yX1_seenAs, Cond.static yX1_seenAs, Cond.code yX1_seenAs cX1_seenAs 5 (some .int)]
def wsX5_count_r3 : List Cond := [Cond.methodLink RX5 204 yX0_paintersServed, Cond.instanceMethod yX0_paintersServed, Cond.selects RX0 yX0_paintersServed yX0_paintersServed, Cond.code yX0_paintersServed cX0_paintersServed 3 (some .int), Cond.methodLink RX0 73 yX0_wrongPairs, Cond.instanceMethod yX0_wrongPairs, Cond.selects RX0 yX0_wrongPairs yX0_wrongPairs, Cond.code yX0_wrongPairs cX0_wrongPairs 5 (some .int), Cond.methodLink RX0 69 yX0_tells, Cond.instanceMethod yX0_tells, Cond.selects RX0 yX0_tells yX0_tells, Cond.code yX0_tells cX0_tells 4 (some .boolean)]
def wsX5_count : List Cond := .code yX5_count cX5_count 2 (some .int) :: ((wsX5_count_r1 ++ (wsX5_count_r2 ++ wsX5_count_r3)) ++ wsX50 ++ wsX00 ++ wsX30 ++ (vx_atS RX5 141 "java/lang/IllegalArgumentException" ["java/lang/RuntimeException", "java/lang/Exception"]).filter goodWord)
def wsX5_fewest_r1 : List Cond := [Cond.fieldLink RX5 33 "PotLabels" "labelling" "LPotLabels$Labelling;", Cond.fieldLink RX5 12 "PotLabels" "bureau" "LPotLabels$Bureau;", Cond.methodLink RX5 63 yX5_needPainter, Cond.static yX5_needPainter, Cond.initialized RX5, Cond.code yX5_needPainter cX5_needPainter 1 none, Cond.classLink RX5 298 "java/lang/IndexOutOfBoundsException", Cond.initialized "java/lang/IndexOutOfBoundsException", Cond.methodLink RX5 41 yX5_needWithin, Cond.static yX5_needWithin, Cond.code yX5_needWithin cX5_needWithin 3 none, Cond.classLink RX5 137 "java/lang/IllegalArgumentException", Cond.initialized "java/lang/IllegalArgumentException", Cond.methodLink RX5 215 yX2_look, Cond.instanceMethod yX2_look, Cond.selects RX2 yX2_look yX2_look, Cond.initialized RX2, Cond.code yX2_look cX2_look 5 none, Cond.fieldLink RX2 9 "PotLabels$Labelling" "rivals" "[I", Cond.methodLink RX2 25 yX0_tells, Cond.instanceMethod yX0_tells, Cond.selects RX0 yX0_tells yX0_tells, Cond.initialized RX0, Cond.code yX0_tells cX0_tells 4 (some .boolean)]
def wsX5_fewest_r2 : List Cond := [Cond.fieldLink RX0 24 "PotLabels$Bureau" "lenders" "[I", Cond.fieldLink RX0 9 "PotLabels$Bureau" "colours" "[I", Cond.methodLink RX0 49 yX0_tellsColours, Cond.instanceMethod yX0_tellsColours, Cond.selects RX0 yX0_tellsColours yX0_tellsColours, Cond.code yX0_tellsColours cX0_tellsColours 6 (some .boolean), Cond.fieldLink RX0 21 "PotLabels$Bureau" "sharpnesses" "[I", Cond.fieldLink RX0 18 "PotLabels$Bureau" "kinds" "[I", Cond.methodLink RX0 53 yX1_distance, Cond.static yX1_distance, Cond.initialized RX1, Cond.code yX1_distance cX1_distance 5 (some .int), Cond.methodLink RX1 16 Lib.Math.abs.name, Cond.static Lib.Math.abs.name, Cond.initialized "java/lang/Math", Cond.code Lib.Math.abs.name Lib.Math.abs.code 1 (some .int), Cond.methodLink RX1 13 yX1_seenAs, Cond.static yX1_seenAs, Cond.code yX1_seenAs cX1_seenAs 5 (some .int), Cond.methodLink RX5 219 yX2_fewestBySets, Cond.instanceMethod yX2_fewestBySets, Cond.selects RX2 yX2_fewestBySets yX2_fewestBySets, Cond.code yX2_fewestBySets cX2_fewestBySets 4 (some .int), Cond.fieldLink RX2 15 "PotLabels$Labelling" "peaceful" "[Z"]
def wsX5_fewest_r3 : List Cond := [Cond.fieldLink RX2 19 "PotLabels$Labelling" "needs" "[I", Cond.methodLink RX2 31 yX2_needOf, Cond.instanceMethod yX2_needOf, Cond.selects RX2 yX2_needOf yX2_needOf, Cond.code yX2_needOf cX2_needOf 5 (some .int), Cond.methodLink RX2 35 Lib.Math.min.name, Cond.static Lib.Math.min.name, Cond.code Lib.Math.min.name Lib.Math.min.code 2 (some .int), Cond.methodLink RX5 222 yX2_fewestByTrying, Cond.instanceMethod yX2_fewestByTrying, Cond.selects RX2 yX2_fewestByTrying yX2_fewestByTrying, Cond.code yX2_fewestByTrying cX2_fewestByTrying 1 (some .int), Cond.fieldLink RX2 22 "PotLabels$Labelling" "bearers" "[I", Cond.methodLink RX2 40 yX2_fewestFrom, Cond.static yX2_fewestFrom, Cond.code yX2_fewestFrom cX2_fewestFrom 8 (some .int)]
def wsX5_fewest : List Cond := .code yX5_fewest cX5_fewest 3 (some .int) :: ((wsX5_fewest_r1 ++ (wsX5_fewest_r2 ++ wsX5_fewest_r3)) ++ wsX50 ++ wsX20 ++ wsX00 ++ (vx_atS RX5 302 "java/lang/IndexOutOfBoundsException" ["java/lang/RuntimeException", "java/lang/Exception"]).filter goodWord ++ (vx_atS RX5 141 "java/lang/IllegalArgumentException" ["java/lang/RuntimeException", "java/lang/Exception"]).filter goodWord)
def wsX5_ifBorrowed_r1 : List Cond := [Cond.fieldLink RX5 12 "PotLabels" "bureau" "LPotLabels$Bureau;", Cond.methodLink RX5 63 yX5_needPainter, Cond.static yX5_needPainter, Cond.initialized RX5, Cond.code yX5_needPainter cX5_needPainter 1 none, Cond.classLink RX5 298 "java/lang/IndexOutOfBoundsException", Cond.initialized "java/lang/IndexOutOfBoundsException", Cond.methodLink RX5 145 yX0_pairsTold, Cond.instanceMethod yX0_pairsTold, Cond.selects RX0 yX0_pairsTold yX0_pairsTold, Cond.initialized RX0, Cond.code yX0_pairsTold cX0_pairsTold 6 (some .int), Cond.fieldLink RX0 9 "PotLabels$Bureau" "colours" "[I", Cond.methodLink RX0 49 yX0_tellsColours, Cond.instanceMethod yX0_tellsColours, Cond.selects RX0 yX0_tellsColours yX0_tellsColours, Cond.code yX0_tellsColours cX0_tellsColours 6 (some .boolean), Cond.fieldLink RX0 21 "PotLabels$Bureau" "sharpnesses" "[I", Cond.fieldLink RX0 18 "PotLabels$Bureau" "kinds" "[I", Cond.methodLink RX0 53 yX1_distance, Cond.static yX1_distance, Cond.initialized RX1, Cond.code yX1_distance cX1_distance 5 (some .int), Cond.methodLink RX1 16 Lib.Math.abs.name]
def wsX5_ifBorrowed_r2 : List Cond := [Cond.static Lib.Math.abs.name, Cond.initialized "java/lang/Math", Cond.code Lib.Math.abs.name Lib.Math.abs.code 1 (some .int), Cond.methodLink RX1 13 yX1_seenAs, Cond.static yX1_seenAs, Cond.code yX1_seenAs cX1_seenAs 5 (some .int)]
def wsX5_ifBorrowed : List Cond := .code yX5_ifBorrowed cX5_ifBorrowed 3 (some .int) :: ((wsX5_ifBorrowed_r1 ++ wsX5_ifBorrowed_r2) ++ wsX50 ++ wsX00 ++ (vx_atS RX5 302 "java/lang/IndexOutOfBoundsException" ["java/lang/RuntimeException", "java/lang/Exception"]).filter goodWord)
def wsX5_leastChange_r1 : List Cond := [Cond.fieldLink RX5 12 "PotLabels" "bureau" "LPotLabels$Bureau;", Cond.methodLink RX5 63 yX5_needPainter, Cond.static yX5_needPainter, Cond.initialized RX5, Cond.code yX5_needPainter cX5_needPainter 1 none, Cond.classLink RX5 298 "java/lang/IndexOutOfBoundsException", Cond.initialized "java/lang/IndexOutOfBoundsException", Cond.methodLink RX5 37 yX5_needPot, Cond.static yX5_needPot, Cond.code yX5_needPot cX5_needPot 1 none, Cond.methodLink RX5 85 yX5_needUnlike, Cond.static yX5_needUnlike, Cond.code yX5_needUnlike cX5_needUnlike 2 none, Cond.classLink RX5 137 "java/lang/IllegalArgumentException", Cond.initialized "java/lang/IllegalArgumentException", Cond.methodLink RX5 225 yX0_nearestColour, Cond.instanceMethod yX0_nearestColour, Cond.selects RX0 yX0_nearestColour yX0_nearestColour, Cond.initialized RX0, Cond.code yX0_nearestColour cX0_nearestColour 8 (some .int), Cond.fieldLink RX0 9 "PotLabels$Bureau" "colours" "[I", Cond.fieldLink RX0 24 "PotLabels$Bureau" "lenders" "[I", Cond.methodLink RX0 82 yX1_change, Cond.static yX1_change]
def wsX5_leastChange_r2 : List Cond := [Cond.initialized RX1, Cond.code yX1_change cX1_change 2 (some .int), Cond.methodLink RX1 22 yX1_distance, Cond.static yX1_distance, Cond.code yX1_distance cX1_distance 5 (some .int), Cond.methodLink RX1 16 Lib.Math.abs.name, Cond.static Lib.Math.abs.name, Cond.initialized "java/lang/Math", Cond.code Lib.Math.abs.name Lib.Math.abs.code 1 (some .int), Cond.methodLink RX1 13 yX1_seenAs, Cond.static yX1_seenAs, Cond.code yX1_seenAs cX1_seenAs 5 (some .int), Cond.methodLink RX0 49 yX0_tellsColours, Cond.instanceMethod yX0_tellsColours, Cond.selects RX0 yX0_tellsColours yX0_tellsColours, Cond.code yX0_tellsColours cX0_tellsColours 6 (some .boolean), Cond.fieldLink RX0 21 "PotLabels$Bureau" "sharpnesses" "[I", Cond.fieldLink RX0 18 "PotLabels$Bureau" "kinds" "[I", Cond.methodLink RX0 53 yX1_distance, Cond.methodLink RX5 228 yX1_change]
def wsX5_leastChange : List Cond := .code yX5_leastChange cX5_leastChange 5 (some .int) :: ((wsX5_leastChange_r1 ++ wsX5_leastChange_r2) ++ wsX50 ++ wsX00 ++ (vx_atS RX5 302 "java/lang/IndexOutOfBoundsException" ["java/lang/RuntimeException", "java/lang/Exception"]).filter goodWord ++ (vx_atS RX5 141 "java/lang/IllegalArgumentException" ["java/lang/RuntimeException", "java/lang/Exception"]).filter goodWord)
def wsX5_bestPainter : List Cond := .code yX5_bestPainter cX5_bestPainter 5 (some .int) :: ([.fieldLink RX5 12 "PotLabels" "bureau" "LPotLabels$Bureau;", .methodLink RX5 145 yX0_pairsTold, .instanceMethod yX0_pairsTold, .selects RX0 yX0_pairsTold yX0_pairsTold, .initialized RX0, .code yX0_pairsTold cX0_pairsTold 6 (some .int), .fieldLink RX0 9 "PotLabels$Bureau" "colours" "[I", .methodLink RX0 49 yX0_tellsColours, .instanceMethod yX0_tellsColours, .selects RX0 yX0_tellsColours yX0_tellsColours, .code yX0_tellsColours cX0_tellsColours 6 (some .boolean), .fieldLink RX0 21 "PotLabels$Bureau" "sharpnesses" "[I", .fieldLink RX0 18 "PotLabels$Bureau" "kinds" "[I", .methodLink RX0 53 yX1_distance, .static yX1_distance, .initialized RX1, .code yX1_distance cX1_distance 5 (some .int), .methodLink RX1 16 Lib.Math.abs.name, .static Lib.Math.abs.name, .initialized "java/lang/Math", .code Lib.Math.abs.name Lib.Math.abs.code 1 (some .int), .methodLink RX1 13 yX1_seenAs, .static yX1_seenAs, .code yX1_seenAs cX1_seenAs 5 (some .int)] ++ wsX50 ++ wsX00)
def wsX5_apartShare_r1 : List Cond := [Cond.fieldLink RX5 12 "PotLabels" "bureau" "LPotLabels$Bureau;", Cond.constantDouble RX5 231 (4637581716284768256), Cond.methodLink RX5 145 yX0_pairsTold, Cond.instanceMethod yX0_pairsTold, Cond.selects RX0 yX0_pairsTold yX0_pairsTold, Cond.initialized RX0, Cond.code yX0_pairsTold cX0_pairsTold 6 (some .int), Cond.fieldLink RX0 9 "PotLabels$Bureau" "colours" "[I", Cond.methodLink RX0 49 yX0_tellsColours, Cond.instanceMethod yX0_tellsColours, Cond.selects RX0 yX0_tellsColours yX0_tellsColours, Cond.code yX0_tellsColours cX0_tellsColours 6 (some .boolean), Cond.fieldLink RX0 21 "PotLabels$Bureau" "sharpnesses" "[I", Cond.fieldLink RX0 18 "PotLabels$Bureau" "kinds" "[I", Cond.methodLink RX0 53 yX1_distance, Cond.static yX1_distance, Cond.initialized RX1, Cond.code yX1_distance cX1_distance 5 (some .int), Cond.methodLink RX1 16 Lib.Math.abs.name, Cond.static Lib.Math.abs.name, Cond.initialized "java/lang/Math", Cond.code Lib.Math.abs.name Lib.Math.abs.code 1 (some .int), Cond.methodLink RX1 13 yX1_seenAs, Cond.static yX1_seenAs]
def wsX5_apartShare_r2 : List Cond := [Cond.code yX1_seenAs cX1_seenAs 5 (some .int)]
def wsX5_apartShare : List Cond := .code yX5_apartShare cX5_apartShare 3 (some .double) :: ((wsX5_apartShare_r1 ++ wsX5_apartShare_r2) ++ wsX50 ++ wsX00)
def wsJ9_abs_0f7a4 : List Cond := .code yJ9_abs_0f7a4 cJ9_abs_0f7a4 1 (some .int) :: ([])
def wsJ9_min_7cf53 : List Cond := .code yJ9_min_7cf53 cJ9_min_7cf53 2 (some .int) :: ([])
def wsL_at : List Cond := .code yL_at cL_at 2 (some .int) :: ([.constant RL 7 (1063091095), .constant RL 8 (726494849)])
def wsL_low : List Cond := .code yL_low cL_low 2 (some .int) :: ([.constant RL 9 (2147483647)])
def wsL_mix_r1 : List Cond := [Cond.classLink RL 16 "java/lang/IndexOutOfBoundsException", Cond.classLink RL 19 "java/lang/IllegalArgumentException", Cond.constant RL 18 (-1000001), Cond.constant RL 21 (-1000002), Cond.methodLink RL 10 yX5_mix, Cond.instanceMethod yX5_mix, Cond.selects RX5 yX5_mix yX5_mix, Cond.initialized RX5, Cond.code yX5_mix cX5_mix 5 (some .int), Cond.fieldLink RX5 19 "PotLabels" "memory" "LPotLabels$Memory;", Cond.fieldLink RX5 12 "PotLabels" "bureau" "LPotLabels$Bureau;", Cond.methodLink RX5 37 yX5_needPot, Cond.static yX5_needPot, Cond.code yX5_needPot cX5_needPot 1 none, Cond.classLink RX5 298 "java/lang/IndexOutOfBoundsException", Cond.initialized "java/lang/IndexOutOfBoundsException", Cond.methodLink RX5 41 yX5_needWithin, Cond.static yX5_needWithin, Cond.code yX5_needWithin cX5_needWithin 3 none, Cond.classLink RX5 137 "java/lang/IllegalArgumentException", Cond.initialized "java/lang/IllegalArgumentException", Cond.methodLink RX5 45 yX3_save, Cond.instanceMethod yX3_save, Cond.selects RX3 yX3_save yX3_save]
def wsL_mix_r2 : List Cond := [Cond.initialized RX3, Cond.code yX3_save cX3_save 2 none, Cond.fieldLink RX3 25 "PotLabels$Memory" "held" "I", Cond.fieldLink RX3 21 "PotLabels$Memory" "saved" "[LPotLabels$Bureau;", Cond.methodLink RX3 29 yX3_dropOldest, Cond.instanceMethod yX3_dropOldest, Cond.selects RX3 yX3_dropOldest yX3_dropOldest, Cond.code yX3_dropOldest cX3_dropOldest 3 none, Cond.methodLink RX3 32 yX0_copyFrom, Cond.instanceMethod yX0_copyFrom, Cond.selects RX0 yX0_copyFrom yX0_copyFrom, Cond.initialized RX0, Cond.code yX0_copyFrom cX0_copyFrom 2 none, Cond.fieldLink RX0 9 "PotLabels$Bureau" "colours" "[I", Cond.methodLink RX0 33 arraycopyName, Cond.native arraycopyName, Cond.static arraycopyName, Cond.initialized "java/lang/System", Cond.fieldLink RX0 15 "PotLabels$Bureau" "labels" "[I", Cond.fieldLink RX0 18 "PotLabels$Bureau" "kinds" "[I", Cond.fieldLink RX0 21 "PotLabels$Bureau" "sharpnesses" "[I", Cond.fieldLink RX0 24 "PotLabels$Bureau" "lenders" "[I", Cond.fieldLink RX0 27 "PotLabels$Bureau" "figures" "[I", Cond.fieldLink RX0 30 "PotLabels$Bureau" "grounds" "[I"]
def wsL_mix_r3 : List Cond := [Cond.fieldLink RX0 39 "PotLabels$Bureau" "charts" "I", Cond.fieldLink RX0 43 "PotLabels$Bureau" "corrections" "I", Cond.fieldLink RX0 46 "PotLabels$Bureau" "refusals" "I", Cond.methodLink RX5 53 yX1_partOf, Cond.static yX1_partOf, Cond.initialized RX1, Cond.code yX1_partOf cX1_partOf 2 (some .int), Cond.methodLink RX5 59 yX1_withPart, Cond.static yX1_withPart, Cond.code yX1_withPart cX1_withPart 4 (some .int), Cond.methodLink RX1 7 yX1_partOf]
def wsL_mix : List Cond := .codeWith yL_mix cL_mix 5 (some .int) [(0, 7, 8, 16), (0, 7, 13, 19)] :: ((wsL_mix_r1 ++ (wsL_mix_r2 ++ wsL_mix_r3)) ++ wsX50 ++ wsX00 ++ wsX30 ++ (vx_atS RX5 302 "java/lang/IndexOutOfBoundsException" ["java/lang/RuntimeException", "java/lang/Exception"]).filter goodWord ++ (vx_atS RX5 141 "java/lang/IllegalArgumentException" ["java/lang/RuntimeException", "java/lang/Exception"]).filter goodWord)
def wsL_painter_r1 : List Cond := [Cond.classLink RL 16 "java/lang/IndexOutOfBoundsException", Cond.classLink RL 19 "java/lang/IllegalArgumentException", Cond.constant RL 18 (-1000001), Cond.constant RL 21 (-1000002), Cond.methodLink RL 22 yX5_painter, Cond.instanceMethod yX5_painter, Cond.selects RX5 yX5_painter yX5_painter, Cond.initialized RX5, Cond.code yX5_painter cX5_painter 6 (some .int), Cond.fieldLink RX5 19 "PotLabels" "memory" "LPotLabels$Memory;", Cond.fieldLink RX5 12 "PotLabels" "bureau" "LPotLabels$Bureau;", Cond.methodLink RX5 63 yX5_needPainter, Cond.static yX5_needPainter, Cond.code yX5_needPainter cX5_needPainter 1 none, Cond.classLink RX5 298 "java/lang/IndexOutOfBoundsException", Cond.initialized "java/lang/IndexOutOfBoundsException", Cond.methodLink RX5 41 yX5_needWithin, Cond.static yX5_needWithin, Cond.code yX5_needWithin cX5_needWithin 3 none, Cond.classLink RX5 137 "java/lang/IllegalArgumentException", Cond.initialized "java/lang/IllegalArgumentException", Cond.methodLink RX5 45 yX3_save, Cond.instanceMethod yX3_save, Cond.selects RX3 yX3_save yX3_save]
def wsL_painter_r2 : List Cond := [Cond.initialized RX3, Cond.code yX3_save cX3_save 2 none, Cond.fieldLink RX3 25 "PotLabels$Memory" "held" "I", Cond.fieldLink RX3 21 "PotLabels$Memory" "saved" "[LPotLabels$Bureau;", Cond.methodLink RX3 29 yX3_dropOldest, Cond.instanceMethod yX3_dropOldest, Cond.selects RX3 yX3_dropOldest yX3_dropOldest, Cond.code yX3_dropOldest cX3_dropOldest 3 none, Cond.methodLink RX3 32 yX0_copyFrom, Cond.instanceMethod yX0_copyFrom, Cond.selects RX0 yX0_copyFrom yX0_copyFrom, Cond.initialized RX0, Cond.code yX0_copyFrom cX0_copyFrom 2 none, Cond.fieldLink RX0 9 "PotLabels$Bureau" "colours" "[I", Cond.methodLink RX0 33 arraycopyName, Cond.native arraycopyName, Cond.static arraycopyName, Cond.initialized "java/lang/System", Cond.fieldLink RX0 15 "PotLabels$Bureau" "labels" "[I", Cond.fieldLink RX0 18 "PotLabels$Bureau" "kinds" "[I", Cond.fieldLink RX0 21 "PotLabels$Bureau" "sharpnesses" "[I", Cond.fieldLink RX0 24 "PotLabels$Bureau" "lenders" "[I", Cond.fieldLink RX0 27 "PotLabels$Bureau" "figures" "[I", Cond.fieldLink RX0 30 "PotLabels$Bureau" "grounds" "[I"]
def wsL_painter_r3 : List Cond := [Cond.fieldLink RX0 39 "PotLabels$Bureau" "charts" "I", Cond.fieldLink RX0 43 "PotLabels$Bureau" "corrections" "I", Cond.fieldLink RX0 46 "PotLabels$Bureau" "refusals" "I"]
def wsL_painter : List Cond := .codeWith yL_painter cL_painter 5 (some .int) [(0, 7, 8, 16), (0, 7, 13, 19)] :: ((wsL_painter_r1 ++ (wsL_painter_r2 ++ wsL_painter_r3)) ++ wsX50 ++ wsX00 ++ wsX30 ++ (vx_atS RX5 302 "java/lang/IndexOutOfBoundsException" ["java/lang/RuntimeException", "java/lang/Exception"]).filter goodWord ++ (vx_atS RX5 141 "java/lang/IllegalArgumentException" ["java/lang/RuntimeException", "java/lang/Exception"]).filter goodWord)
def wsL_borrow_r1 : List Cond := [Cond.classLink RL 16 "java/lang/IndexOutOfBoundsException", Cond.constant RL 18 (-1000001), Cond.methodLink RL 25 yX5_borrow, Cond.instanceMethod yX5_borrow, Cond.selects RX5 yX5_borrow yX5_borrow, Cond.initialized RX5, Cond.code yX5_borrow cX5_borrow 4 (some .int), Cond.fieldLink RX5 19 "PotLabels" "memory" "LPotLabels$Memory;", Cond.fieldLink RX5 12 "PotLabels" "bureau" "LPotLabels$Bureau;", Cond.methodLink RX5 63 yX5_needPainter, Cond.static yX5_needPainter, Cond.code yX5_needPainter cX5_needPainter 1 none, Cond.classLink RX5 298 "java/lang/IndexOutOfBoundsException", Cond.initialized "java/lang/IndexOutOfBoundsException", Cond.methodLink RX5 45 yX3_save, Cond.instanceMethod yX3_save, Cond.selects RX3 yX3_save yX3_save, Cond.initialized RX3, Cond.code yX3_save cX3_save 2 none, Cond.fieldLink RX3 25 "PotLabels$Memory" "held" "I", Cond.fieldLink RX3 21 "PotLabels$Memory" "saved" "[LPotLabels$Bureau;", Cond.methodLink RX3 29 yX3_dropOldest, Cond.instanceMethod yX3_dropOldest, Cond.selects RX3 yX3_dropOldest yX3_dropOldest]
def wsL_borrow_r2 : List Cond := [Cond.code yX3_dropOldest cX3_dropOldest 3 none, Cond.methodLink RX3 32 yX0_copyFrom, Cond.instanceMethod yX0_copyFrom, Cond.selects RX0 yX0_copyFrom yX0_copyFrom, Cond.initialized RX0, Cond.code yX0_copyFrom cX0_copyFrom 2 none, Cond.fieldLink RX0 9 "PotLabels$Bureau" "colours" "[I", Cond.methodLink RX0 33 arraycopyName, Cond.native arraycopyName, Cond.static arraycopyName, Cond.initialized "java/lang/System", Cond.fieldLink RX0 15 "PotLabels$Bureau" "labels" "[I", Cond.fieldLink RX0 18 "PotLabels$Bureau" "kinds" "[I", Cond.fieldLink RX0 21 "PotLabels$Bureau" "sharpnesses" "[I", Cond.fieldLink RX0 24 "PotLabels$Bureau" "lenders" "[I", Cond.fieldLink RX0 27 "PotLabels$Bureau" "figures" "[I", Cond.fieldLink RX0 30 "PotLabels$Bureau" "grounds" "[I", Cond.fieldLink RX0 39 "PotLabels$Bureau" "charts" "I", Cond.fieldLink RX0 43 "PotLabels$Bureau" "corrections" "I", Cond.fieldLink RX0 46 "PotLabels$Bureau" "refusals" "I"]
def wsL_borrow : List Cond := .codeWith yL_borrow cL_borrow 4 (some .int) [(0, 6, 7, 16)] :: ((wsL_borrow_r1 ++ wsL_borrow_r2) ++ wsX50 ++ wsX00 ++ wsX30 ++ (vx_atS RX5 302 "java/lang/IndexOutOfBoundsException" ["java/lang/RuntimeException", "java/lang/Exception"]).filter goodWord)
def wsL_label_r1 : List Cond := [Cond.classLink RL 16 "java/lang/IndexOutOfBoundsException", Cond.classLink RL 19 "java/lang/IllegalArgumentException", Cond.constant RL 18 (-1000001), Cond.constant RL 21 (-1000002), Cond.methodLink RL 29 yX5_label, Cond.instanceMethod yX5_label, Cond.selects RX5 yX5_label yX5_label, Cond.initialized RX5, Cond.code yX5_label cX5_label 4 (some .int), Cond.fieldLink RX5 19 "PotLabels" "memory" "LPotLabels$Memory;", Cond.fieldLink RX5 12 "PotLabels" "bureau" "LPotLabels$Bureau;", Cond.methodLink RX5 37 yX5_needPot, Cond.static yX5_needPot, Cond.code yX5_needPot cX5_needPot 1 none, Cond.classLink RX5 298 "java/lang/IndexOutOfBoundsException", Cond.initialized "java/lang/IndexOutOfBoundsException", Cond.methodLink RX5 41 yX5_needWithin, Cond.static yX5_needWithin, Cond.code yX5_needWithin cX5_needWithin 3 none, Cond.classLink RX5 137 "java/lang/IllegalArgumentException", Cond.initialized "java/lang/IllegalArgumentException", Cond.methodLink RX5 45 yX3_save, Cond.instanceMethod yX3_save, Cond.selects RX3 yX3_save yX3_save]
def wsL_label_r2 : List Cond := [Cond.initialized RX3, Cond.code yX3_save cX3_save 2 none, Cond.fieldLink RX3 25 "PotLabels$Memory" "held" "I", Cond.fieldLink RX3 21 "PotLabels$Memory" "saved" "[LPotLabels$Bureau;", Cond.methodLink RX3 29 yX3_dropOldest, Cond.instanceMethod yX3_dropOldest, Cond.selects RX3 yX3_dropOldest yX3_dropOldest, Cond.code yX3_dropOldest cX3_dropOldest 3 none, Cond.methodLink RX3 32 yX0_copyFrom, Cond.instanceMethod yX0_copyFrom, Cond.selects RX0 yX0_copyFrom yX0_copyFrom, Cond.initialized RX0, Cond.code yX0_copyFrom cX0_copyFrom 2 none, Cond.fieldLink RX0 9 "PotLabels$Bureau" "colours" "[I", Cond.methodLink RX0 33 arraycopyName, Cond.native arraycopyName, Cond.static arraycopyName, Cond.initialized "java/lang/System", Cond.fieldLink RX0 15 "PotLabels$Bureau" "labels" "[I", Cond.fieldLink RX0 18 "PotLabels$Bureau" "kinds" "[I", Cond.fieldLink RX0 21 "PotLabels$Bureau" "sharpnesses" "[I", Cond.fieldLink RX0 24 "PotLabels$Bureau" "lenders" "[I", Cond.fieldLink RX0 27 "PotLabels$Bureau" "figures" "[I", Cond.fieldLink RX0 30 "PotLabels$Bureau" "grounds" "[I"]
def wsL_label_r3 : List Cond := [Cond.fieldLink RX0 39 "PotLabels$Bureau" "charts" "I", Cond.fieldLink RX0 43 "PotLabels$Bureau" "corrections" "I", Cond.fieldLink RX0 46 "PotLabels$Bureau" "refusals" "I"]
def wsL_label : List Cond := .codeWith yL_label cL_label 4 (some .int) [(0, 6, 7, 16), (0, 6, 11, 19)] :: ((wsL_label_r1 ++ (wsL_label_r2 ++ wsL_label_r3)) ++ wsX50 ++ wsX00 ++ wsX30 ++ (vx_atS RX5 302 "java/lang/IndexOutOfBoundsException" ["java/lang/RuntimeException", "java/lang/Exception"]).filter goodWord ++ (vx_atS RX5 141 "java/lang/IllegalArgumentException" ["java/lang/RuntimeException", "java/lang/Exception"]).filter goodWord)
def wsL_labelAll_r1 : List Cond := [Cond.classLink RL 16 "java/lang/IndexOutOfBoundsException", Cond.constant RL 18 (-1000001), Cond.methodLink RL 32 yX5_labelAll, Cond.instanceMethod yX5_labelAll, Cond.selects RX5 yX5_labelAll yX5_labelAll, Cond.initialized RX5, Cond.code yX5_labelAll cX5_labelAll 2 (some .int), Cond.fieldLink RX5 19 "PotLabels" "memory" "LPotLabels$Memory;", Cond.fieldLink RX5 12 "PotLabels" "bureau" "LPotLabels$Bureau;", Cond.methodLink RX5 63 yX5_needPainter, Cond.static yX5_needPainter, Cond.code yX5_needPainter cX5_needPainter 1 none, Cond.classLink RX5 298 "java/lang/IndexOutOfBoundsException", Cond.initialized "java/lang/IndexOutOfBoundsException", Cond.methodLink RX5 45 yX3_save, Cond.instanceMethod yX3_save, Cond.selects RX3 yX3_save yX3_save, Cond.initialized RX3, Cond.code yX3_save cX3_save 2 none, Cond.fieldLink RX3 25 "PotLabels$Memory" "held" "I", Cond.fieldLink RX3 21 "PotLabels$Memory" "saved" "[LPotLabels$Bureau;", Cond.methodLink RX3 29 yX3_dropOldest, Cond.instanceMethod yX3_dropOldest, Cond.selects RX3 yX3_dropOldest yX3_dropOldest]
def wsL_labelAll_r2 : List Cond := [Cond.code yX3_dropOldest cX3_dropOldest 3 none, Cond.methodLink RX3 32 yX0_copyFrom, Cond.instanceMethod yX0_copyFrom, Cond.selects RX0 yX0_copyFrom yX0_copyFrom, Cond.initialized RX0, Cond.code yX0_copyFrom cX0_copyFrom 2 none, Cond.fieldLink RX0 9 "PotLabels$Bureau" "colours" "[I", Cond.methodLink RX0 33 arraycopyName, Cond.native arraycopyName, Cond.static arraycopyName, Cond.initialized "java/lang/System", Cond.fieldLink RX0 15 "PotLabels$Bureau" "labels" "[I", Cond.fieldLink RX0 18 "PotLabels$Bureau" "kinds" "[I", Cond.fieldLink RX0 21 "PotLabels$Bureau" "sharpnesses" "[I", Cond.fieldLink RX0 24 "PotLabels$Bureau" "lenders" "[I", Cond.fieldLink RX0 27 "PotLabels$Bureau" "figures" "[I", Cond.fieldLink RX0 30 "PotLabels$Bureau" "grounds" "[I", Cond.fieldLink RX0 39 "PotLabels$Bureau" "charts" "I", Cond.fieldLink RX0 43 "PotLabels$Bureau" "corrections" "I", Cond.fieldLink RX0 46 "PotLabels$Bureau" "refusals" "I", Cond.methodLink RX5 78 yX0_labelInOrder, Cond.instanceMethod yX0_labelInOrder, Cond.selects RX0 yX0_labelInOrder yX0_labelInOrder, Cond.code yX0_labelInOrder cX0_labelInOrder 5 none]
def wsL_labelAll_r3 : List Cond := [Cond.methodLink RX0 69 yX0_tells, Cond.instanceMethod yX0_tells, Cond.selects RX0 yX0_tells yX0_tells, Cond.code yX0_tells cX0_tells 4 (some .boolean), Cond.methodLink RX0 49 yX0_tellsColours, Cond.instanceMethod yX0_tellsColours, Cond.selects RX0 yX0_tellsColours yX0_tellsColours, Cond.code yX0_tellsColours cX0_tellsColours 6 (some .boolean), Cond.methodLink RX0 53 yX1_distance, Cond.static yX1_distance, Cond.initialized RX1, Cond.code yX1_distance cX1_distance 5 (some .int), Cond.methodLink RX1 16 Lib.Math.abs.name, Cond.static Lib.Math.abs.name, Cond.initialized "java/lang/Math", Cond.code Lib.Math.abs.name Lib.Math.abs.code 1 (some .int), Cond.methodLink RX1 13 yX1_seenAs, Cond.static yX1_seenAs, Cond.code yX1_seenAs cX1_seenAs 5 (some .int), Cond.methodLink RX0 76 yX0_leastOutside, Cond.static yX0_leastOutside, Cond.code yX0_leastOutside cX0_leastOutside 2 (some .int), Cond.methodLink RX5 81 yX0_unlikeLabels, Cond.instanceMethod yX0_unlikeLabels]
def wsL_labelAll_r4 : List Cond := [Cond.selects RX0 yX0_unlikeLabels yX0_unlikeLabels, Cond.code yX0_unlikeLabels cX0_unlikeLabels 3 (some .int), Cond.methodLink RX0 63 yJ6_bitCount_0f7a4, Cond.static yJ6_bitCount_0f7a4, Cond.initialized RJ6, Cond.code yJ6_bitCount_0f7a4 cJ6_bitCount_0f7a4 1 (some .int), Cond.constant RJ6 265 (1431655765), Cond.constant RJ6 266 (858993459), Cond.constant RJ6 267 (252645135)]
def wsL_labelAll : List Cond := .codeWith yL_labelAll cL_labelAll 3 (some .int) [(0, 5, 6, 16)] :: ((wsL_labelAll_r1 ++ (wsL_labelAll_r2 ++ (wsL_labelAll_r3 ++ wsL_labelAll_r4))) ++ wsX50 ++ wsX30 ++ wsX00 ++ (vx_atS RX5 302 "java/lang/IndexOutOfBoundsException" ["java/lang/RuntimeException", "java/lang/Exception"]).filter goodWord)
def wsL_hang_r1 : List Cond := [Cond.classLink RL 16 "java/lang/IndexOutOfBoundsException", Cond.classLink RL 19 "java/lang/IllegalArgumentException", Cond.constant RL 18 (-1000001), Cond.constant RL 21 (-1000002), Cond.methodLink RL 36 yX5_hang, Cond.instanceMethod yX5_hang, Cond.selects RX5 yX5_hang yX5_hang, Cond.initialized RX5, Cond.code yX5_hang cX5_hang 3 (some .int), Cond.fieldLink RX5 19 "PotLabels" "memory" "LPotLabels$Memory;", Cond.fieldLink RX5 12 "PotLabels" "bureau" "LPotLabels$Bureau;", Cond.methodLink RX5 37 yX5_needPot, Cond.static yX5_needPot, Cond.code yX5_needPot cX5_needPot 1 none, Cond.classLink RX5 298 "java/lang/IndexOutOfBoundsException", Cond.initialized "java/lang/IndexOutOfBoundsException", Cond.methodLink RX5 85 yX5_needUnlike, Cond.static yX5_needUnlike, Cond.code yX5_needUnlike cX5_needUnlike 2 none, Cond.classLink RX5 137 "java/lang/IllegalArgumentException", Cond.initialized "java/lang/IllegalArgumentException", Cond.methodLink RX5 45 yX3_save, Cond.instanceMethod yX3_save, Cond.selects RX3 yX3_save yX3_save]
def wsL_hang_r2 : List Cond := [Cond.initialized RX3, Cond.code yX3_save cX3_save 2 none, Cond.fieldLink RX3 25 "PotLabels$Memory" "held" "I", Cond.fieldLink RX3 21 "PotLabels$Memory" "saved" "[LPotLabels$Bureau;", Cond.methodLink RX3 29 yX3_dropOldest, Cond.instanceMethod yX3_dropOldest, Cond.selects RX3 yX3_dropOldest yX3_dropOldest, Cond.code yX3_dropOldest cX3_dropOldest 3 none, Cond.methodLink RX3 32 yX0_copyFrom, Cond.instanceMethod yX0_copyFrom, Cond.selects RX0 yX0_copyFrom yX0_copyFrom, Cond.initialized RX0, Cond.code yX0_copyFrom cX0_copyFrom 2 none, Cond.fieldLink RX0 9 "PotLabels$Bureau" "colours" "[I", Cond.methodLink RX0 33 arraycopyName, Cond.native arraycopyName, Cond.static arraycopyName, Cond.initialized "java/lang/System", Cond.fieldLink RX0 15 "PotLabels$Bureau" "labels" "[I", Cond.fieldLink RX0 18 "PotLabels$Bureau" "kinds" "[I", Cond.fieldLink RX0 21 "PotLabels$Bureau" "sharpnesses" "[I", Cond.fieldLink RX0 24 "PotLabels$Bureau" "lenders" "[I", Cond.fieldLink RX0 27 "PotLabels$Bureau" "figures" "[I", Cond.fieldLink RX0 30 "PotLabels$Bureau" "grounds" "[I"]
def wsL_hang_r3 : List Cond := [Cond.fieldLink RX0 39 "PotLabels$Bureau" "charts" "I", Cond.fieldLink RX0 43 "PotLabels$Bureau" "corrections" "I", Cond.fieldLink RX0 46 "PotLabels$Bureau" "refusals" "I", Cond.methodLink RX5 89 yX0_addChart, Cond.instanceMethod yX0_addChart, Cond.selects RX0 yX0_addChart yX0_addChart, Cond.code yX0_addChart cX0_addChart 3 (some .int)]
def wsL_hang : List Cond := .codeWith yL_hang cL_hang 4 (some .int) [(0, 6, 7, 16), (0, 6, 11, 19)] :: ((wsL_hang_r1 ++ (wsL_hang_r2 ++ wsL_hang_r3)) ++ wsX50 ++ wsX30 ++ wsX00 ++ (vx_atS RX5 302 "java/lang/IndexOutOfBoundsException" ["java/lang/RuntimeException", "java/lang/Exception"]).filter goodWord ++ (vx_atS RX5 141 "java/lang/IllegalArgumentException" ["java/lang/RuntimeException", "java/lang/Exception"]).filter goodWord)
def wsL_takeDown_r1 : List Cond := [Cond.classLink RL 16 "java/lang/IndexOutOfBoundsException", Cond.constant RL 18 (-1000001), Cond.methodLink RL 39 yX5_takeDown, Cond.instanceMethod yX5_takeDown, Cond.selects RX5 yX5_takeDown yX5_takeDown, Cond.initialized RX5, Cond.code yX5_takeDown cX5_takeDown 3 (some .int), Cond.fieldLink RX5 19 "PotLabels" "memory" "LPotLabels$Memory;", Cond.fieldLink RX5 12 "PotLabels" "bureau" "LPotLabels$Bureau;", Cond.methodLink RX5 92 yX5_needChart, Cond.instanceMethod yX5_needChart, Cond.selects RX5 yX5_needChart yX5_needChart, Cond.code yX5_needChart cX5_needChart 2 none, Cond.classLink RX5 298 "java/lang/IndexOutOfBoundsException", Cond.initialized "java/lang/IndexOutOfBoundsException", Cond.methodLink RX5 45 yX3_save, Cond.instanceMethod yX3_save, Cond.selects RX3 yX3_save yX3_save, Cond.initialized RX3, Cond.code yX3_save cX3_save 2 none, Cond.fieldLink RX3 25 "PotLabels$Memory" "held" "I", Cond.fieldLink RX3 21 "PotLabels$Memory" "saved" "[LPotLabels$Bureau;", Cond.methodLink RX3 29 yX3_dropOldest, Cond.instanceMethod yX3_dropOldest]
def wsL_takeDown_r2 : List Cond := [Cond.selects RX3 yX3_dropOldest yX3_dropOldest, Cond.code yX3_dropOldest cX3_dropOldest 3 none, Cond.methodLink RX3 32 yX0_copyFrom, Cond.instanceMethod yX0_copyFrom, Cond.selects RX0 yX0_copyFrom yX0_copyFrom, Cond.initialized RX0, Cond.code yX0_copyFrom cX0_copyFrom 2 none, Cond.fieldLink RX0 9 "PotLabels$Bureau" "colours" "[I", Cond.methodLink RX0 33 arraycopyName, Cond.native arraycopyName, Cond.static arraycopyName, Cond.initialized "java/lang/System", Cond.fieldLink RX0 15 "PotLabels$Bureau" "labels" "[I", Cond.fieldLink RX0 18 "PotLabels$Bureau" "kinds" "[I", Cond.fieldLink RX0 21 "PotLabels$Bureau" "sharpnesses" "[I", Cond.fieldLink RX0 24 "PotLabels$Bureau" "lenders" "[I", Cond.fieldLink RX0 27 "PotLabels$Bureau" "figures" "[I", Cond.fieldLink RX0 30 "PotLabels$Bureau" "grounds" "[I", Cond.fieldLink RX0 39 "PotLabels$Bureau" "charts" "I", Cond.fieldLink RX0 43 "PotLabels$Bureau" "corrections" "I", Cond.fieldLink RX0 46 "PotLabels$Bureau" "refusals" "I", Cond.methodLink RX5 95 yX0_readersOf, Cond.instanceMethod yX0_readersOf, Cond.selects RX0 yX0_readersOf yX0_readersOf]
def wsL_takeDown_r3 : List Cond := [Cond.code yX0_readersOf cX0_readersOf 2 (some .int), Cond.methodLink RX0 59 yX0_tellersOfPair, Cond.instanceMethod yX0_tellersOfPair, Cond.selects RX0 yX0_tellersOfPair yX0_tellersOfPair, Cond.code yX0_tellersOfPair cX0_tellersOfPair 5 (some .int), Cond.methodLink RX0 49 yX0_tellsColours, Cond.instanceMethod yX0_tellsColours, Cond.selects RX0 yX0_tellsColours yX0_tellsColours, Cond.code yX0_tellsColours cX0_tellsColours 6 (some .boolean), Cond.methodLink RX0 53 yX1_distance, Cond.static yX1_distance, Cond.initialized RX1, Cond.code yX1_distance cX1_distance 5 (some .int), Cond.methodLink RX1 16 Lib.Math.abs.name, Cond.static Lib.Math.abs.name, Cond.initialized "java/lang/Math", Cond.code Lib.Math.abs.name Lib.Math.abs.code 1 (some .int), Cond.methodLink RX1 13 yX1_seenAs, Cond.static yX1_seenAs, Cond.code yX1_seenAs cX1_seenAs 5 (some .int), Cond.methodLink RX5 99 yJ6_bitCount_0f7a4, Cond.static yJ6_bitCount_0f7a4, Cond.initialized RJ6, Cond.code yJ6_bitCount_0f7a4 cJ6_bitCount_0f7a4 1 (some .int)]
def wsL_takeDown_r4 : List Cond := [Cond.constant RJ6 265 (1431655765), Cond.constant RJ6 266 (858993459), Cond.constant RJ6 267 (252645135), Cond.methodLink RX5 104 yX0_removeChart, Cond.instanceMethod yX0_removeChart, Cond.selects RX0 yX0_removeChart yX0_removeChart, Cond.code yX0_removeChart cX0_removeChart 3 none]
def wsL_takeDown : List Cond := .codeWith yL_takeDown cL_takeDown 3 (some .int) [(0, 5, 6, 16)] :: ((wsL_takeDown_r1 ++ (wsL_takeDown_r2 ++ (wsL_takeDown_r3 ++ wsL_takeDown_r4))) ++ wsX50 ++ wsX00 ++ wsX30 ++ (vx_atS RX5 302 "java/lang/IndexOutOfBoundsException" ["java/lang/RuntimeException", "java/lang/Exception"]).filter goodWord)
def wsL_correct_r1 : List Cond := [Cond.classLink RL 16 "java/lang/IndexOutOfBoundsException", Cond.constant RL 18 (-1000001), Cond.methodLink RL 42 yX5_correct, Cond.instanceMethod yX5_correct, Cond.selects RX5 yX5_correct yX5_correct, Cond.initialized RX5, Cond.code yX5_correct cX5_correct 3 (some .int), Cond.fieldLink RX5 19 "PotLabels" "memory" "LPotLabels$Memory;", Cond.fieldLink RX5 12 "PotLabels" "bureau" "LPotLabels$Bureau;", Cond.methodLink RX5 92 yX5_needChart, Cond.instanceMethod yX5_needChart, Cond.selects RX5 yX5_needChart yX5_needChart, Cond.code yX5_needChart cX5_needChart 2 none, Cond.classLink RX5 298 "java/lang/IndexOutOfBoundsException", Cond.initialized "java/lang/IndexOutOfBoundsException", Cond.methodLink RX5 63 yX5_needPainter, Cond.static yX5_needPainter, Cond.code yX5_needPainter cX5_needPainter 1 none, Cond.methodLink RX5 45 yX3_save, Cond.instanceMethod yX3_save, Cond.selects RX3 yX3_save yX3_save, Cond.initialized RX3, Cond.code yX3_save cX3_save 2 none, Cond.fieldLink RX3 25 "PotLabels$Memory" "held" "I"]
def wsL_correct_r2 : List Cond := [Cond.fieldLink RX3 21 "PotLabels$Memory" "saved" "[LPotLabels$Bureau;", Cond.methodLink RX3 29 yX3_dropOldest, Cond.instanceMethod yX3_dropOldest, Cond.selects RX3 yX3_dropOldest yX3_dropOldest, Cond.code yX3_dropOldest cX3_dropOldest 3 none, Cond.methodLink RX3 32 yX0_copyFrom, Cond.instanceMethod yX0_copyFrom, Cond.selects RX0 yX0_copyFrom yX0_copyFrom, Cond.initialized RX0, Cond.code yX0_copyFrom cX0_copyFrom 2 none, Cond.fieldLink RX0 9 "PotLabels$Bureau" "colours" "[I", Cond.methodLink RX0 33 arraycopyName, Cond.native arraycopyName, Cond.static arraycopyName, Cond.initialized "java/lang/System", Cond.fieldLink RX0 15 "PotLabels$Bureau" "labels" "[I", Cond.fieldLink RX0 18 "PotLabels$Bureau" "kinds" "[I", Cond.fieldLink RX0 21 "PotLabels$Bureau" "sharpnesses" "[I", Cond.fieldLink RX0 24 "PotLabels$Bureau" "lenders" "[I", Cond.fieldLink RX0 27 "PotLabels$Bureau" "figures" "[I", Cond.fieldLink RX0 30 "PotLabels$Bureau" "grounds" "[I", Cond.fieldLink RX0 39 "PotLabels$Bureau" "charts" "I", Cond.fieldLink RX0 43 "PotLabels$Bureau" "corrections" "I", Cond.fieldLink RX0 46 "PotLabels$Bureau" "refusals" "I"]
def wsL_correct_r3 : List Cond := [Cond.methodLink RX5 107 yX0_makeReadable, Cond.instanceMethod yX0_makeReadable, Cond.selects RX0 yX0_makeReadable yX0_makeReadable, Cond.code yX0_makeReadable cX0_makeReadable 6 (some .int), Cond.methodLink RX0 79 yX0_nearestColour, Cond.instanceMethod yX0_nearestColour, Cond.selects RX0 yX0_nearestColour yX0_nearestColour, Cond.code yX0_nearestColour cX0_nearestColour 8 (some .int), Cond.methodLink RX0 82 yX1_change, Cond.static yX1_change, Cond.initialized RX1, Cond.code yX1_change cX1_change 2 (some .int), Cond.methodLink RX1 22 yX1_distance, Cond.static yX1_distance, Cond.code yX1_distance cX1_distance 5 (some .int), Cond.methodLink RX1 16 Lib.Math.abs.name, Cond.static Lib.Math.abs.name, Cond.initialized "java/lang/Math", Cond.code Lib.Math.abs.name Lib.Math.abs.code 1 (some .int), Cond.methodLink RX1 13 yX1_seenAs, Cond.static yX1_seenAs, Cond.code yX1_seenAs cX1_seenAs 5 (some .int), Cond.methodLink RX0 49 yX0_tellsColours, Cond.instanceMethod yX0_tellsColours]
def wsL_correct_r4 : List Cond := [Cond.selects RX0 yX0_tellsColours yX0_tellsColours, Cond.code yX0_tellsColours cX0_tellsColours 6 (some .boolean), Cond.methodLink RX0 53 yX1_distance]
def wsL_correct : List Cond := .codeWith yL_correct cL_correct 4 (some .int) [(0, 6, 7, 16)] :: ((wsL_correct_r1 ++ (wsL_correct_r2 ++ (wsL_correct_r3 ++ wsL_correct_r4))) ++ wsX50 ++ wsX00 ++ wsX30 ++ (vx_atS RX5 302 "java/lang/IndexOutOfBoundsException" ["java/lang/RuntimeException", "java/lang/Exception"]).filter goodWord)
def wsL_append_r1 : List Cond := [Cond.classLink RL 19 "java/lang/IllegalArgumentException", Cond.classLink RL 48 "java/lang/IllegalStateException", Cond.constant RL 18 (-1000001), Cond.constant RL 21 (-1000002), Cond.methodLink RL 45 yX5_append, Cond.instanceMethod yX5_append, Cond.selects RX5 yX5_append yX5_append, Cond.initialized RX5, Cond.code yX5_append cX5_append 2 (some .int), Cond.classLink RX5 114 "java/lang/IllegalStateException", Cond.initialized "java/lang/IllegalStateException", Cond.fieldLink RX5 26 "PotLabels" "text" "LPotLabels$Text;", Cond.methodLink RX5 41 yX5_needWithin, Cond.static yX5_needWithin, Cond.code yX5_needWithin cX5_needWithin 3 none, Cond.classLink RX5 137 "java/lang/IllegalArgumentException", Cond.initialized "java/lang/IllegalArgumentException", Cond.methodLink RX5 110 yX4_isFull, Cond.instanceMethod yX4_isFull, Cond.selects RX4 yX4_isFull yX4_isFull, Cond.initialized RX4, Cond.code yX4_isFull cX4_isFull 1 (some .boolean), Cond.fieldLink RX4 15 "PotLabels$Text" "length" "I", Cond.methodLink RX5 121 yX4_add]
def wsL_append_r2 : List Cond := [Cond.instanceMethod yX4_add, Cond.selects RX4 yX4_add yX4_add, Cond.code yX4_add cX4_add 2 none, Cond.fieldLink RX4 9 "PotLabels$Text" "codes" "[I"]
def wsL_append : List Cond := .codeWith yL_append cL_append 3 (some .int) [(0, 5, 6, 19), (0, 5, 10, 48)] :: ((wsL_append_r1 ++ wsL_append_r2) ++ wsX50 ++ wsX40 ++ (vx_atS RX5 118 "java/lang/IllegalStateException" ["java/lang/RuntimeException", "java/lang/Exception"]).filter goodWord ++ (vx_atS RX5 141 "java/lang/IllegalArgumentException" ["java/lang/RuntimeException", "java/lang/Exception"]).filter goodWord)
def wsL_load_r1 : List Cond := [Cond.classLink RL 19 "java/lang/IllegalArgumentException", Cond.constant RL 18 (-1000001), Cond.methodLink RL 50 yX5_load, Cond.instanceMethod yX5_load, Cond.selects RX5 yX5_load yX5_load, Cond.initialized RX5, Cond.code yX5_load cX5_load 1 (some .int), Cond.classLink RX5 137 "java/lang/IllegalArgumentException", Cond.initialized "java/lang/IllegalArgumentException", Cond.fieldLink RX5 26 "PotLabels" "text" "LPotLabels$Text;", Cond.fieldLink RX5 19 "PotLabels" "memory" "LPotLabels$Memory;", Cond.fieldLink RX5 12 "PotLabels" "bureau" "LPotLabels$Bureau;", Cond.methodLink RX5 134 yX4_tellsPots, Cond.instanceMethod yX4_tellsPots, Cond.selects RX4 yX4_tellsPots yX4_tellsPots, Cond.initialized RX4, Cond.code yX4_tellsPots cX4_tellsPots 1 (some .boolean), Cond.fieldLink RX4 15 "PotLabels$Text" "length" "I", Cond.methodLink RX4 23 yX4_firstWrong, Cond.instanceMethod yX4_firstWrong, Cond.selects RX4 yX4_firstWrong yX4_firstWrong, Cond.code yX4_firstWrong cX4_firstWrong 2 (some .int), Cond.fieldLink RX4 9 "PotLabels$Text" "codes" "[I", Cond.methodLink RX4 19 yX4_fits]
def wsL_load_r2 : List Cond := [Cond.static yX4_fits, Cond.code yX4_fits cX4_fits 2 (some .boolean), Cond.methodLink RX5 45 yX3_save, Cond.instanceMethod yX3_save, Cond.selects RX3 yX3_save yX3_save, Cond.initialized RX3, Cond.code yX3_save cX3_save 2 none, Cond.fieldLink RX3 25 "PotLabels$Memory" "held" "I", Cond.fieldLink RX3 21 "PotLabels$Memory" "saved" "[LPotLabels$Bureau;", Cond.methodLink RX3 29 yX3_dropOldest, Cond.instanceMethod yX3_dropOldest, Cond.selects RX3 yX3_dropOldest yX3_dropOldest, Cond.code yX3_dropOldest cX3_dropOldest 3 none, Cond.methodLink RX3 32 yX0_copyFrom, Cond.instanceMethod yX0_copyFrom, Cond.selects RX0 yX0_copyFrom yX0_copyFrom, Cond.initialized RX0, Cond.code yX0_copyFrom cX0_copyFrom 2 none, Cond.fieldLink RX0 9 "PotLabels$Bureau" "colours" "[I", Cond.methodLink RX0 33 arraycopyName, Cond.native arraycopyName, Cond.static arraycopyName, Cond.initialized "java/lang/System", Cond.fieldLink RX0 15 "PotLabels$Bureau" "labels" "[I"]
def wsL_load_r3 : List Cond := [Cond.fieldLink RX0 18 "PotLabels$Bureau" "kinds" "[I", Cond.fieldLink RX0 21 "PotLabels$Bureau" "sharpnesses" "[I", Cond.fieldLink RX0 24 "PotLabels$Bureau" "lenders" "[I", Cond.fieldLink RX0 27 "PotLabels$Bureau" "figures" "[I", Cond.fieldLink RX0 30 "PotLabels$Bureau" "grounds" "[I", Cond.fieldLink RX0 39 "PotLabels$Bureau" "charts" "I", Cond.fieldLink RX0 43 "PotLabels$Bureau" "corrections" "I", Cond.fieldLink RX0 46 "PotLabels$Bureau" "refusals" "I", Cond.methodLink RX5 142 yX4_giveColours, Cond.instanceMethod yX4_giveColours, Cond.selects RX4 yX4_giveColours yX4_giveColours, Cond.code yX4_giveColours cX4_giveColours 4 none, Cond.methodLink RX5 128 yX4_clear, Cond.instanceMethod yX4_clear, Cond.selects RX4 yX4_clear yX4_clear, Cond.code yX4_clear cX4_clear 1 none, Cond.methodLink RX5 145 yX0_pairsTold, Cond.instanceMethod yX0_pairsTold, Cond.selects RX0 yX0_pairsTold yX0_pairsTold, Cond.code yX0_pairsTold cX0_pairsTold 6 (some .int), Cond.methodLink RX0 49 yX0_tellsColours, Cond.instanceMethod yX0_tellsColours, Cond.selects RX0 yX0_tellsColours yX0_tellsColours, Cond.code yX0_tellsColours cX0_tellsColours 6 (some .boolean)]
def wsL_load_r4 : List Cond := [Cond.methodLink RX0 53 yX1_distance, Cond.static yX1_distance, Cond.initialized RX1, Cond.code yX1_distance cX1_distance 5 (some .int), Cond.methodLink RX1 16 Lib.Math.abs.name, Cond.static Lib.Math.abs.name, Cond.initialized "java/lang/Math", Cond.code Lib.Math.abs.name Lib.Math.abs.code 1 (some .int), Cond.methodLink RX1 13 yX1_seenAs, Cond.static yX1_seenAs, Cond.code yX1_seenAs cX1_seenAs 5 (some .int)]
def wsL_load : List Cond := .codeWith yL_load cL_load 2 (some .int) [(0, 4, 5, 19)] :: ((wsL_load_r1 ++ (wsL_load_r2 ++ (wsL_load_r3 ++ wsL_load_r4))) ++ wsX50 ++ wsX00 ++ wsX40 ++ wsX30 ++ (vx_atS RX5 141 "java/lang/IllegalArgumentException" ["java/lang/RuntimeException", "java/lang/Exception"]).filter goodWord)
def wsL_undo_r1 : List Cond := [Cond.classLink RL 48 "java/lang/IllegalStateException", Cond.constant RL 18 (-1000001), Cond.methodLink RL 54 yX5_undo, Cond.instanceMethod yX5_undo, Cond.selects RX5 yX5_undo yX5_undo, Cond.initialized RX5, Cond.code yX5_undo cX5_undo 1 (some .int), Cond.classLink RX5 114 "java/lang/IllegalStateException", Cond.initialized "java/lang/IllegalStateException", Cond.fieldLink RX5 19 "PotLabels" "memory" "LPotLabels$Memory;", Cond.fieldLink RX5 12 "PotLabels" "bureau" "LPotLabels$Bureau;", Cond.methodLink RX5 169 yX3_restore, Cond.instanceMethod yX3_restore, Cond.selects RX3 yX3_restore yX3_restore, Cond.initialized RX3, Cond.code yX3_restore cX3_restore 2 none, Cond.fieldLink RX3 25 "PotLabels$Memory" "held" "I", Cond.fieldLink RX3 21 "PotLabels$Memory" "saved" "[LPotLabels$Bureau;", Cond.methodLink RX3 32 yX0_copyFrom, Cond.instanceMethod yX0_copyFrom, Cond.selects RX0 yX0_copyFrom yX0_copyFrom, Cond.initialized RX0, Cond.code yX0_copyFrom cX0_copyFrom 2 none, Cond.fieldLink RX0 9 "PotLabels$Bureau" "colours" "[I"]
def wsL_undo_r2 : List Cond := [Cond.methodLink RX0 33 arraycopyName, Cond.native arraycopyName, Cond.static arraycopyName, Cond.initialized "java/lang/System", Cond.fieldLink RX0 15 "PotLabels$Bureau" "labels" "[I", Cond.fieldLink RX0 18 "PotLabels$Bureau" "kinds" "[I", Cond.fieldLink RX0 21 "PotLabels$Bureau" "sharpnesses" "[I", Cond.fieldLink RX0 24 "PotLabels$Bureau" "lenders" "[I", Cond.fieldLink RX0 27 "PotLabels$Bureau" "figures" "[I", Cond.fieldLink RX0 30 "PotLabels$Bureau" "grounds" "[I", Cond.fieldLink RX0 39 "PotLabels$Bureau" "charts" "I", Cond.fieldLink RX0 43 "PotLabels$Bureau" "corrections" "I", Cond.fieldLink RX0 46 "PotLabels$Bureau" "refusals" "I"]
def wsL_undo : List Cond := .codeWith yL_undo cL_undo 2 (some .int) [(0, 4, 5, 48)] :: ((wsL_undo_r1 ++ wsL_undo_r2) ++ wsX50 ++ wsX30 ++ wsX00 ++ (vx_atS RX5 118 "java/lang/IllegalStateException" ["java/lang/RuntimeException", "java/lang/Exception"]).filter goodWord)
def wsL_potOf_r1 : List Cond := [Cond.classLink RL 16 "java/lang/IndexOutOfBoundsException", Cond.classLink RL 19 "java/lang/IllegalArgumentException", Cond.constant RL 18 (-1000001), Cond.constant RL 21 (-1000002), Cond.methodLink RL 57 yX5_potOf, Cond.instanceMethod yX5_potOf, Cond.selects RX5 yX5_potOf yX5_potOf, Cond.initialized RX5, Cond.code yX5_potOf cX5_potOf 3 (some .int), Cond.fieldLink RX5 12 "PotLabels" "bureau" "LPotLabels$Bureau;", Cond.methodLink RX5 37 yX5_needPot, Cond.static yX5_needPot, Cond.code yX5_needPot cX5_needPot 1 none, Cond.classLink RX5 298 "java/lang/IndexOutOfBoundsException", Cond.initialized "java/lang/IndexOutOfBoundsException", Cond.methodLink RX5 41 yX5_needWithin, Cond.static yX5_needWithin, Cond.code yX5_needWithin cX5_needWithin 3 none, Cond.classLink RX5 137 "java/lang/IllegalArgumentException", Cond.initialized "java/lang/IllegalArgumentException", Cond.methodLink RX5 53 yX1_partOf, Cond.static yX1_partOf, Cond.initialized RX1, Cond.code yX1_partOf cX1_partOf 2 (some .int)]
def wsL_potOf_r2 : List Cond := [Cond.methodLink RX5 172 yX0_tellersOf, Cond.instanceMethod yX0_tellersOf, Cond.selects RX0 yX0_tellersOf yX0_tellersOf, Cond.initialized RX0, Cond.code yX0_tellersOf cX0_tellersOf 4 (some .int), Cond.methodLink RX0 59 yX0_tellersOfPair, Cond.instanceMethod yX0_tellersOfPair, Cond.selects RX0 yX0_tellersOfPair yX0_tellersOfPair, Cond.code yX0_tellersOfPair cX0_tellersOfPair 5 (some .int), Cond.fieldLink RX0 24 "PotLabels$Bureau" "lenders" "[I", Cond.fieldLink RX0 9 "PotLabels$Bureau" "colours" "[I", Cond.methodLink RX0 49 yX0_tellsColours, Cond.instanceMethod yX0_tellsColours, Cond.selects RX0 yX0_tellsColours yX0_tellsColours, Cond.code yX0_tellsColours cX0_tellsColours 6 (some .boolean), Cond.fieldLink RX0 21 "PotLabels$Bureau" "sharpnesses" "[I", Cond.fieldLink RX0 18 "PotLabels$Bureau" "kinds" "[I", Cond.methodLink RX0 53 yX1_distance, Cond.static yX1_distance, Cond.code yX1_distance cX1_distance 5 (some .int), Cond.methodLink RX1 16 Lib.Math.abs.name, Cond.static Lib.Math.abs.name, Cond.initialized "java/lang/Math", Cond.code Lib.Math.abs.name Lib.Math.abs.code 1 (some .int)]
def wsL_potOf_r3 : List Cond := [Cond.methodLink RX1 13 yX1_seenAs, Cond.static yX1_seenAs, Cond.code yX1_seenAs cX1_seenAs 5 (some .int)]
def wsL_potOf : List Cond := .codeWith yL_potOf cL_potOf 4 (some .int) [(0, 6, 7, 16), (0, 6, 11, 19)] :: ((wsL_potOf_r1 ++ (wsL_potOf_r2 ++ wsL_potOf_r3)) ++ wsX50 ++ wsX00 ++ (vx_atS RX5 302 "java/lang/IndexOutOfBoundsException" ["java/lang/RuntimeException", "java/lang/Exception"]).filter goodWord ++ (vx_atS RX5 141 "java/lang/IllegalArgumentException" ["java/lang/RuntimeException", "java/lang/Exception"]).filter goodWord)
def wsL_seen : List Cond := .codeWith yL_seen cL_seen 4 (some .int) [(0, 6, 7, 16)] :: ([.classLink RL 16 "java/lang/IndexOutOfBoundsException", .constant RL 18 (-1000001), .methodLink RL 60 yX5_seen, .instanceMethod yX5_seen, .selects RX5 yX5_seen yX5_seen, .initialized RX5, .code yX5_seen cX5_seen 3 (some .int), .fieldLink RX5 12 "PotLabels" "bureau" "LPotLabels$Bureau;", .methodLink RX5 63 yX5_needPainter, .static yX5_needPainter, .code yX5_needPainter cX5_needPainter 1 none, .classLink RX5 298 "java/lang/IndexOutOfBoundsException", .initialized "java/lang/IndexOutOfBoundsException", .methodLink RX5 37 yX5_needPot, .static yX5_needPot, .code yX5_needPot cX5_needPot 1 none, .methodLink RX5 175 yX1_seenAs, .static yX1_seenAs, .initialized RX1, .code yX1_seenAs cX1_seenAs 5 (some .int)] ++ wsX50 ++ wsX00 ++ (vx_atS RX5 302 "java/lang/IndexOutOfBoundsException" ["java/lang/RuntimeException", "java/lang/Exception"]).filter goodWord)
def wsL_painterOf_r1 : List Cond := [Cond.classLink RL 16 "java/lang/IndexOutOfBoundsException", Cond.classLink RL 19 "java/lang/IllegalArgumentException", Cond.constant RL 18 (-1000001), Cond.constant RL 21 (-1000002), Cond.methodLink RL 63 yX5_painterOf, Cond.instanceMethod yX5_painterOf, Cond.selects RX5 yX5_painterOf yX5_painterOf, Cond.initialized RX5, Cond.code yX5_painterOf cX5_painterOf 3 (some .int), Cond.classLink RX5 137 "java/lang/IllegalArgumentException", Cond.initialized "java/lang/IllegalArgumentException", Cond.fieldLink RX5 12 "PotLabels" "bureau" "LPotLabels$Bureau;", Cond.methodLink RX5 63 yX5_needPainter, Cond.static yX5_needPainter, Cond.code yX5_needPainter cX5_needPainter 1 none, Cond.classLink RX5 298 "java/lang/IndexOutOfBoundsException", Cond.initialized "java/lang/IndexOutOfBoundsException", Cond.methodLink RX5 145 yX0_pairsTold, Cond.instanceMethod yX0_pairsTold, Cond.selects RX0 yX0_pairsTold yX0_pairsTold, Cond.initialized RX0, Cond.code yX0_pairsTold cX0_pairsTold 6 (some .int), Cond.fieldLink RX0 9 "PotLabels$Bureau" "colours" "[I", Cond.methodLink RX0 49 yX0_tellsColours]
def wsL_painterOf_r2 : List Cond := [Cond.instanceMethod yX0_tellsColours, Cond.selects RX0 yX0_tellsColours yX0_tellsColours, Cond.code yX0_tellsColours cX0_tellsColours 6 (some .boolean), Cond.fieldLink RX0 21 "PotLabels$Bureau" "sharpnesses" "[I", Cond.fieldLink RX0 18 "PotLabels$Bureau" "kinds" "[I", Cond.methodLink RX0 53 yX1_distance, Cond.static yX1_distance, Cond.initialized RX1, Cond.code yX1_distance cX1_distance 5 (some .int), Cond.methodLink RX1 16 Lib.Math.abs.name, Cond.static Lib.Math.abs.name, Cond.initialized "java/lang/Math", Cond.code Lib.Math.abs.name Lib.Math.abs.code 1 (some .int), Cond.methodLink RX1 13 yX1_seenAs, Cond.static yX1_seenAs, Cond.code yX1_seenAs cX1_seenAs 5 (some .int), Cond.methodLink RX5 178 yX0_wrongPairs, Cond.instanceMethod yX0_wrongPairs, Cond.selects RX0 yX0_wrongPairs yX0_wrongPairs, Cond.code yX0_wrongPairs cX0_wrongPairs 5 (some .int), Cond.fieldLink RX0 15 "PotLabels$Bureau" "labels" "[I", Cond.methodLink RX0 69 yX0_tells, Cond.instanceMethod yX0_tells, Cond.selects RX0 yX0_tells yX0_tells]
def wsL_painterOf_r3 : List Cond := [Cond.code yX0_tells cX0_tells 4 (some .boolean), Cond.fieldLink RX0 24 "PotLabels$Bureau" "lenders" "[I", Cond.methodLink RX5 181 yX0_chartsRead, Cond.instanceMethod yX0_chartsRead, Cond.selects RX0 yX0_chartsRead yX0_chartsRead, Cond.code yX0_chartsRead cX0_chartsRead 4 (some .int), Cond.fieldLink RX0 39 "PotLabels$Bureau" "charts" "I", Cond.fieldLink RX0 27 "PotLabels$Bureau" "figures" "[I", Cond.fieldLink RX0 30 "PotLabels$Bureau" "grounds" "[I"]
def wsL_painterOf : List Cond := .codeWith yL_painterOf cL_painterOf 4 (some .int) [(0, 6, 7, 16), (0, 6, 11, 19)] :: ((wsL_painterOf_r1 ++ (wsL_painterOf_r2 ++ wsL_painterOf_r3)) ++ wsX50 ++ wsX00 ++ (vx_atS RX5 141 "java/lang/IllegalArgumentException" ["java/lang/RuntimeException", "java/lang/Exception"]).filter goodWord ++ (vx_atS RX5 302 "java/lang/IndexOutOfBoundsException" ["java/lang/RuntimeException", "java/lang/Exception"]).filter goodWord)
def wsL_apart_r1 : List Cond := [Cond.classLink RL 16 "java/lang/IndexOutOfBoundsException", Cond.constant RL 18 (-1000001), Cond.methodLink RL 66 yX5_apart, Cond.instanceMethod yX5_apart, Cond.selects RX5 yX5_apart yX5_apart, Cond.initialized RX5, Cond.code yX5_apart cX5_apart 4 (some .int), Cond.fieldLink RX5 12 "PotLabels" "bureau" "LPotLabels$Bureau;", Cond.methodLink RX5 63 yX5_needPainter, Cond.static yX5_needPainter, Cond.code yX5_needPainter cX5_needPainter 1 none, Cond.classLink RX5 298 "java/lang/IndexOutOfBoundsException", Cond.initialized "java/lang/IndexOutOfBoundsException", Cond.methodLink RX5 37 yX5_needPot, Cond.static yX5_needPot, Cond.code yX5_needPot cX5_needPot 1 none, Cond.methodLink RX5 186 yX0_tells, Cond.instanceMethod yX0_tells, Cond.selects RX0 yX0_tells yX0_tells, Cond.initialized RX0, Cond.code yX0_tells cX0_tells 4 (some .boolean), Cond.fieldLink RX0 24 "PotLabels$Bureau" "lenders" "[I", Cond.fieldLink RX0 9 "PotLabels$Bureau" "colours" "[I", Cond.methodLink RX0 49 yX0_tellsColours]
def wsL_apart_r2 : List Cond := [Cond.instanceMethod yX0_tellsColours, Cond.selects RX0 yX0_tellsColours yX0_tellsColours, Cond.code yX0_tellsColours cX0_tellsColours 6 (some .boolean), Cond.fieldLink RX0 21 "PotLabels$Bureau" "sharpnesses" "[I", Cond.fieldLink RX0 18 "PotLabels$Bureau" "kinds" "[I", Cond.methodLink RX0 53 yX1_distance, Cond.static yX1_distance, Cond.initialized RX1, Cond.code yX1_distance cX1_distance 5 (some .int), Cond.methodLink RX1 16 Lib.Math.abs.name, Cond.static Lib.Math.abs.name, Cond.initialized "java/lang/Math", Cond.code Lib.Math.abs.name Lib.Math.abs.code 1 (some .int), Cond.methodLink RX1 13 yX1_seenAs, Cond.static yX1_seenAs, Cond.code yX1_seenAs cX1_seenAs 5 (some .int)]
def wsL_apart : List Cond := .codeWith yL_apart cL_apart 5 (some .int) [(0, 7, 8, 16)] :: ((wsL_apart_r1 ++ wsL_apart_r2) ++ wsX50 ++ wsX00 ++ (vx_atS RX5 302 "java/lang/IndexOutOfBoundsException" ["java/lang/RuntimeException", "java/lang/Exception"]).filter goodWord)
def wsL_chartOf_r1 : List Cond := [Cond.classLink RL 16 "java/lang/IndexOutOfBoundsException", Cond.classLink RL 19 "java/lang/IllegalArgumentException", Cond.constant RL 18 (-1000001), Cond.constant RL 21 (-1000002), Cond.methodLink RL 69 yX5_chartOf, Cond.instanceMethod yX5_chartOf, Cond.selects RX5 yX5_chartOf yX5_chartOf, Cond.initialized RX5, Cond.code yX5_chartOf cX5_chartOf 3 (some .int), Cond.classLink RX5 137 "java/lang/IllegalArgumentException", Cond.initialized "java/lang/IllegalArgumentException", Cond.fieldLink RX5 12 "PotLabels" "bureau" "LPotLabels$Bureau;", Cond.methodLink RX5 92 yX5_needChart, Cond.instanceMethod yX5_needChart, Cond.selects RX5 yX5_needChart yX5_needChart, Cond.code yX5_needChart cX5_needChart 2 none, Cond.classLink RX5 298 "java/lang/IndexOutOfBoundsException", Cond.initialized "java/lang/IndexOutOfBoundsException", Cond.methodLink RX5 95 yX0_readersOf, Cond.instanceMethod yX0_readersOf, Cond.selects RX0 yX0_readersOf yX0_readersOf, Cond.initialized RX0, Cond.code yX0_readersOf cX0_readersOf 2 (some .int), Cond.fieldLink RX0 27 "PotLabels$Bureau" "figures" "[I"]
def wsL_chartOf_r2 : List Cond := [Cond.fieldLink RX0 30 "PotLabels$Bureau" "grounds" "[I", Cond.methodLink RX0 59 yX0_tellersOfPair, Cond.instanceMethod yX0_tellersOfPair, Cond.selects RX0 yX0_tellersOfPair yX0_tellersOfPair, Cond.code yX0_tellersOfPair cX0_tellersOfPair 5 (some .int), Cond.fieldLink RX0 24 "PotLabels$Bureau" "lenders" "[I", Cond.fieldLink RX0 9 "PotLabels$Bureau" "colours" "[I", Cond.methodLink RX0 49 yX0_tellsColours, Cond.instanceMethod yX0_tellsColours, Cond.selects RX0 yX0_tellsColours yX0_tellsColours, Cond.code yX0_tellsColours cX0_tellsColours 6 (some .boolean), Cond.fieldLink RX0 21 "PotLabels$Bureau" "sharpnesses" "[I", Cond.fieldLink RX0 18 "PotLabels$Bureau" "kinds" "[I", Cond.methodLink RX0 53 yX1_distance, Cond.static yX1_distance, Cond.initialized RX1, Cond.code yX1_distance cX1_distance 5 (some .int), Cond.methodLink RX1 16 Lib.Math.abs.name, Cond.static Lib.Math.abs.name, Cond.initialized "java/lang/Math", Cond.code Lib.Math.abs.name Lib.Math.abs.code 1 (some .int), Cond.methodLink RX1 13 yX1_seenAs, Cond.static yX1_seenAs, Cond.code yX1_seenAs cX1_seenAs 5 (some .int)]
def wsL_chartOf : List Cond := .codeWith yL_chartOf cL_chartOf 4 (some .int) [(0, 6, 7, 16), (0, 6, 11, 19)] :: ((wsL_chartOf_r1 ++ wsL_chartOf_r2) ++ wsX50 ++ wsX00 ++ (vx_atS RX5 141 "java/lang/IllegalArgumentException" ["java/lang/RuntimeException", "java/lang/Exception"]).filter goodWord ++ (vx_atS RX5 302 "java/lang/IndexOutOfBoundsException" ["java/lang/RuntimeException", "java/lang/Exception"]).filter goodWord)
def wsL_count_r1 : List Cond := [Cond.classLink RL 19 "java/lang/IllegalArgumentException", Cond.constant RL 18 (-1000001), Cond.methodLink RL 72 yX5_count, Cond.instanceMethod yX5_count, Cond.selects RX5 yX5_count yX5_count, Cond.initialized RX5, Cond.code yX5_count cX5_count 2 (some .int), Cond.classLink RX5 137 "java/lang/IllegalArgumentException", Cond.initialized "java/lang/IllegalArgumentException", Cond.fieldLink RX5 12 "PotLabels" "bureau" "LPotLabels$Bureau;", Cond.fieldLink RX5 19 "PotLabels" "memory" "LPotLabels$Memory;", Cond.methodLink RX5 159 yX0_labelled, Cond.instanceMethod yX0_labelled, Cond.selects RX0 yX0_labelled yX0_labelled, Cond.initialized RX0, Cond.code yX0_labelled cX0_labelled 3 (some .int), Cond.fieldLink RX0 15 "PotLabels$Bureau" "labels" "[I", Cond.methodLink RX5 81 yX0_unlikeLabels, Cond.instanceMethod yX0_unlikeLabels, Cond.selects RX0 yX0_unlikeLabels yX0_unlikeLabels, Cond.code yX0_unlikeLabels cX0_unlikeLabels 3 (some .int), Cond.methodLink RX0 63 yJ6_bitCount_0f7a4, Cond.static yJ6_bitCount_0f7a4, Cond.initialized RJ6]
def wsL_count_r2 : List Cond := [Cond.code yJ6_bitCount_0f7a4 cJ6_bitCount_0f7a4 1 (some .int), Cond.constant RJ6 265 (1431655765), Cond.constant RJ6 266 (858993459), Cond.constant RJ6 267 (252645135), Cond.methodLink RX5 201 yX0_pairsToldByNobody, Cond.instanceMethod yX0_pairsToldByNobody, Cond.selects RX0 yX0_pairsToldByNobody yX0_pairsToldByNobody, Cond.code yX0_pairsToldByNobody cX0_pairsToldByNobody 4 (some .int), Cond.methodLink RX0 59 yX0_tellersOfPair, Cond.instanceMethod yX0_tellersOfPair, Cond.selects RX0 yX0_tellersOfPair yX0_tellersOfPair, Cond.code yX0_tellersOfPair cX0_tellersOfPair 5 (some .int), Cond.fieldLink RX0 24 "PotLabels$Bureau" "lenders" "[I", Cond.fieldLink RX0 9 "PotLabels$Bureau" "colours" "[I", Cond.methodLink RX0 49 yX0_tellsColours, Cond.instanceMethod yX0_tellsColours, Cond.selects RX0 yX0_tellsColours yX0_tellsColours, Cond.code yX0_tellsColours cX0_tellsColours 6 (some .boolean), Cond.fieldLink RX0 21 "PotLabels$Bureau" "sharpnesses" "[I", Cond.fieldLink RX0 18 "PotLabels$Bureau" "kinds" "[I", Cond.methodLink RX0 53 yX1_distance, Cond.static yX1_distance, Cond.initialized RX1, Cond.code yX1_distance cX1_distance 5 (some .int)]
def wsL_count_r3 : List Cond := [Cond.methodLink RX1 16 Lib.Math.abs.name, Cond.static Lib.Math.abs.name, Cond.initialized "java/lang/Math", Cond.code Lib.Math.abs.name Lib.Math.abs.code 1 (some .int), Cond.methodLink RX1 13 yX1_seenAs, Cond.static yX1_seenAs, Cond.code yX1_seenAs cX1_seenAs 5 (some .int), Cond.methodLink RX5 204 yX0_paintersServed, Cond.instanceMethod yX0_paintersServed, Cond.selects RX0 yX0_paintersServed yX0_paintersServed, Cond.code yX0_paintersServed cX0_paintersServed 3 (some .int), Cond.methodLink RX0 73 yX0_wrongPairs, Cond.instanceMethod yX0_wrongPairs, Cond.selects RX0 yX0_wrongPairs yX0_wrongPairs, Cond.code yX0_wrongPairs cX0_wrongPairs 5 (some .int), Cond.methodLink RX0 69 yX0_tells, Cond.instanceMethod yX0_tells, Cond.selects RX0 yX0_tells yX0_tells, Cond.code yX0_tells cX0_tells 4 (some .boolean)]
def wsL_count : List Cond := .codeWith yL_count cL_count 3 (some .int) [(0, 5, 6, 19)] :: ((wsL_count_r1 ++ (wsL_count_r2 ++ wsL_count_r3)) ++ wsX50 ++ wsX00 ++ wsX30 ++ (vx_atS RX5 141 "java/lang/IllegalArgumentException" ["java/lang/RuntimeException", "java/lang/Exception"]).filter goodWord)
def wsL_fewest_r1 : List Cond := [Cond.classLink RL 16 "java/lang/IndexOutOfBoundsException", Cond.classLink RL 19 "java/lang/IllegalArgumentException", Cond.constant RL 18 (-1000001), Cond.constant RL 21 (-1000002), Cond.methodLink RL 75 yX5_fewest, Cond.instanceMethod yX5_fewest, Cond.selects RX5 yX5_fewest yX5_fewest, Cond.initialized RX5, Cond.code yX5_fewest cX5_fewest 3 (some .int), Cond.fieldLink RX5 33 "PotLabels" "labelling" "LPotLabels$Labelling;", Cond.fieldLink RX5 12 "PotLabels" "bureau" "LPotLabels$Bureau;", Cond.methodLink RX5 63 yX5_needPainter, Cond.static yX5_needPainter, Cond.code yX5_needPainter cX5_needPainter 1 none, Cond.classLink RX5 298 "java/lang/IndexOutOfBoundsException", Cond.initialized "java/lang/IndexOutOfBoundsException", Cond.methodLink RX5 41 yX5_needWithin, Cond.static yX5_needWithin, Cond.code yX5_needWithin cX5_needWithin 3 none, Cond.classLink RX5 137 "java/lang/IllegalArgumentException", Cond.initialized "java/lang/IllegalArgumentException", Cond.methodLink RX5 215 yX2_look, Cond.instanceMethod yX2_look, Cond.selects RX2 yX2_look yX2_look]
def wsL_fewest_r2 : List Cond := [Cond.initialized RX2, Cond.code yX2_look cX2_look 5 none, Cond.fieldLink RX2 9 "PotLabels$Labelling" "rivals" "[I", Cond.methodLink RX2 25 yX0_tells, Cond.instanceMethod yX0_tells, Cond.selects RX0 yX0_tells yX0_tells, Cond.initialized RX0, Cond.code yX0_tells cX0_tells 4 (some .boolean), Cond.fieldLink RX0 24 "PotLabels$Bureau" "lenders" "[I", Cond.fieldLink RX0 9 "PotLabels$Bureau" "colours" "[I", Cond.methodLink RX0 49 yX0_tellsColours, Cond.instanceMethod yX0_tellsColours, Cond.selects RX0 yX0_tellsColours yX0_tellsColours, Cond.code yX0_tellsColours cX0_tellsColours 6 (some .boolean), Cond.fieldLink RX0 21 "PotLabels$Bureau" "sharpnesses" "[I", Cond.fieldLink RX0 18 "PotLabels$Bureau" "kinds" "[I", Cond.methodLink RX0 53 yX1_distance, Cond.static yX1_distance, Cond.initialized RX1, Cond.code yX1_distance cX1_distance 5 (some .int), Cond.methodLink RX1 16 Lib.Math.abs.name, Cond.static Lib.Math.abs.name, Cond.initialized "java/lang/Math", Cond.code Lib.Math.abs.name Lib.Math.abs.code 1 (some .int)]
def wsL_fewest_r3 : List Cond := [Cond.methodLink RX1 13 yX1_seenAs, Cond.static yX1_seenAs, Cond.code yX1_seenAs cX1_seenAs 5 (some .int), Cond.methodLink RX5 219 yX2_fewestBySets, Cond.instanceMethod yX2_fewestBySets, Cond.selects RX2 yX2_fewestBySets yX2_fewestBySets, Cond.code yX2_fewestBySets cX2_fewestBySets 4 (some .int), Cond.fieldLink RX2 15 "PotLabels$Labelling" "peaceful" "[Z", Cond.fieldLink RX2 19 "PotLabels$Labelling" "needs" "[I", Cond.methodLink RX2 31 yX2_needOf, Cond.instanceMethod yX2_needOf, Cond.selects RX2 yX2_needOf yX2_needOf, Cond.code yX2_needOf cX2_needOf 5 (some .int), Cond.methodLink RX2 35 Lib.Math.min.name, Cond.static Lib.Math.min.name, Cond.code Lib.Math.min.name Lib.Math.min.code 2 (some .int), Cond.methodLink RX5 222 yX2_fewestByTrying, Cond.instanceMethod yX2_fewestByTrying, Cond.selects RX2 yX2_fewestByTrying yX2_fewestByTrying, Cond.code yX2_fewestByTrying cX2_fewestByTrying 1 (some .int), Cond.fieldLink RX2 22 "PotLabels$Labelling" "bearers" "[I", Cond.methodLink RX2 40 yX2_fewestFrom, Cond.static yX2_fewestFrom, Cond.code yX2_fewestFrom cX2_fewestFrom 8 (some .int)]
def wsL_fewest : List Cond := .codeWith yL_fewest cL_fewest 4 (some .int) [(0, 6, 7, 16), (0, 6, 11, 19)] :: ((wsL_fewest_r1 ++ (wsL_fewest_r2 ++ wsL_fewest_r3)) ++ wsX50 ++ wsX20 ++ wsX00 ++ (vx_atS RX5 302 "java/lang/IndexOutOfBoundsException" ["java/lang/RuntimeException", "java/lang/Exception"]).filter goodWord ++ (vx_atS RX5 141 "java/lang/IllegalArgumentException" ["java/lang/RuntimeException", "java/lang/Exception"]).filter goodWord)
def wsL_ifBorrowed_r1 : List Cond := [Cond.classLink RL 16 "java/lang/IndexOutOfBoundsException", Cond.constant RL 18 (-1000001), Cond.methodLink RL 78 yX5_ifBorrowed, Cond.instanceMethod yX5_ifBorrowed, Cond.selects RX5 yX5_ifBorrowed yX5_ifBorrowed, Cond.initialized RX5, Cond.code yX5_ifBorrowed cX5_ifBorrowed 3 (some .int), Cond.fieldLink RX5 12 "PotLabels" "bureau" "LPotLabels$Bureau;", Cond.methodLink RX5 63 yX5_needPainter, Cond.static yX5_needPainter, Cond.code yX5_needPainter cX5_needPainter 1 none, Cond.classLink RX5 298 "java/lang/IndexOutOfBoundsException", Cond.initialized "java/lang/IndexOutOfBoundsException", Cond.methodLink RX5 145 yX0_pairsTold, Cond.instanceMethod yX0_pairsTold, Cond.selects RX0 yX0_pairsTold yX0_pairsTold, Cond.initialized RX0, Cond.code yX0_pairsTold cX0_pairsTold 6 (some .int), Cond.fieldLink RX0 9 "PotLabels$Bureau" "colours" "[I", Cond.methodLink RX0 49 yX0_tellsColours, Cond.instanceMethod yX0_tellsColours, Cond.selects RX0 yX0_tellsColours yX0_tellsColours, Cond.code yX0_tellsColours cX0_tellsColours 6 (some .boolean), Cond.fieldLink RX0 21 "PotLabels$Bureau" "sharpnesses" "[I"]
def wsL_ifBorrowed_r2 : List Cond := [Cond.fieldLink RX0 18 "PotLabels$Bureau" "kinds" "[I", Cond.methodLink RX0 53 yX1_distance, Cond.static yX1_distance, Cond.initialized RX1, Cond.code yX1_distance cX1_distance 5 (some .int), Cond.methodLink RX1 16 Lib.Math.abs.name, Cond.static Lib.Math.abs.name, Cond.initialized "java/lang/Math", Cond.code Lib.Math.abs.name Lib.Math.abs.code 1 (some .int), Cond.methodLink RX1 13 yX1_seenAs, Cond.static yX1_seenAs, Cond.code yX1_seenAs cX1_seenAs 5 (some .int)]
def wsL_ifBorrowed : List Cond := .codeWith yL_ifBorrowed cL_ifBorrowed 4 (some .int) [(0, 6, 7, 16)] :: ((wsL_ifBorrowed_r1 ++ wsL_ifBorrowed_r2) ++ wsX50 ++ wsX00 ++ (vx_atS RX5 302 "java/lang/IndexOutOfBoundsException" ["java/lang/RuntimeException", "java/lang/Exception"]).filter goodWord)
def wsL_leastChange_r1 : List Cond := [Cond.classLink RL 16 "java/lang/IndexOutOfBoundsException", Cond.classLink RL 19 "java/lang/IllegalArgumentException", Cond.constant RL 18 (-1000001), Cond.constant RL 21 (-1000002), Cond.methodLink RL 81 yX5_leastChange, Cond.instanceMethod yX5_leastChange, Cond.selects RX5 yX5_leastChange yX5_leastChange, Cond.initialized RX5, Cond.code yX5_leastChange cX5_leastChange 5 (some .int), Cond.fieldLink RX5 12 "PotLabels" "bureau" "LPotLabels$Bureau;", Cond.methodLink RX5 63 yX5_needPainter, Cond.static yX5_needPainter, Cond.code yX5_needPainter cX5_needPainter 1 none, Cond.classLink RX5 298 "java/lang/IndexOutOfBoundsException", Cond.initialized "java/lang/IndexOutOfBoundsException", Cond.methodLink RX5 37 yX5_needPot, Cond.static yX5_needPot, Cond.code yX5_needPot cX5_needPot 1 none, Cond.methodLink RX5 85 yX5_needUnlike, Cond.static yX5_needUnlike, Cond.code yX5_needUnlike cX5_needUnlike 2 none, Cond.classLink RX5 137 "java/lang/IllegalArgumentException", Cond.initialized "java/lang/IllegalArgumentException", Cond.methodLink RX5 225 yX0_nearestColour]
def wsL_leastChange_r2 : List Cond := [Cond.instanceMethod yX0_nearestColour, Cond.selects RX0 yX0_nearestColour yX0_nearestColour, Cond.initialized RX0, Cond.code yX0_nearestColour cX0_nearestColour 8 (some .int), Cond.fieldLink RX0 9 "PotLabels$Bureau" "colours" "[I", Cond.fieldLink RX0 24 "PotLabels$Bureau" "lenders" "[I", Cond.methodLink RX0 82 yX1_change, Cond.static yX1_change, Cond.initialized RX1, Cond.code yX1_change cX1_change 2 (some .int), Cond.methodLink RX1 22 yX1_distance, Cond.static yX1_distance, Cond.code yX1_distance cX1_distance 5 (some .int), Cond.methodLink RX1 16 Lib.Math.abs.name, Cond.static Lib.Math.abs.name, Cond.initialized "java/lang/Math", Cond.code Lib.Math.abs.name Lib.Math.abs.code 1 (some .int), Cond.methodLink RX1 13 yX1_seenAs, Cond.static yX1_seenAs, Cond.code yX1_seenAs cX1_seenAs 5 (some .int), Cond.methodLink RX0 49 yX0_tellsColours, Cond.instanceMethod yX0_tellsColours, Cond.selects RX0 yX0_tellsColours yX0_tellsColours, Cond.code yX0_tellsColours cX0_tellsColours 6 (some .boolean)]
def wsL_leastChange_r3 : List Cond := [Cond.fieldLink RX0 21 "PotLabels$Bureau" "sharpnesses" "[I", Cond.fieldLink RX0 18 "PotLabels$Bureau" "kinds" "[I", Cond.methodLink RX0 53 yX1_distance, Cond.methodLink RX5 228 yX1_change]
def wsL_leastChange : List Cond := .codeWith yL_leastChange cL_leastChange 5 (some .int) [(0, 7, 8, 16), (0, 7, 13, 19)] :: ((wsL_leastChange_r1 ++ (wsL_leastChange_r2 ++ wsL_leastChange_r3)) ++ wsX50 ++ wsX00 ++ (vx_atS RX5 302 "java/lang/IndexOutOfBoundsException" ["java/lang/RuntimeException", "java/lang/Exception"]).filter goodWord ++ (vx_atS RX5 141 "java/lang/IllegalArgumentException" ["java/lang/RuntimeException", "java/lang/Exception"]).filter goodWord)
def wsL_act_r1 : List Cond := [Cond.methodLink RL 84 yL_low, Cond.static yL_low, Cond.initialized RL, Cond.code yL_low cL_low 2 (some .int), Cond.constant RL 9 (2147483647), Cond.methodLink RL 89 yX5_clearBuffer, Cond.instanceMethod yX5_clearBuffer, Cond.selects RX5 yX5_clearBuffer yX5_clearBuffer, Cond.initialized RX5, Cond.code yX5_clearBuffer cX5_clearBuffer 2 (some .int), Cond.fieldLink RX5 26 "PotLabels" "text" "LPotLabels$Text;", Cond.methodLink RX5 128 yX4_clear, Cond.instanceMethod yX4_clear, Cond.selects RX4 yX4_clear yX4_clear, Cond.initialized RX4, Cond.code yX4_clear cX4_clear 1 none, Cond.fieldLink RX4 15 "PotLabels$Text" "length" "I", Cond.methodLink RL 92 yL_append, Cond.static yL_append, Cond.codeWith yL_append cL_append 3 (some .int) [(0, 5, 6, 19), (0, 5, 10, 48)], Cond.classLink RL 19 "java/lang/IllegalArgumentException", Cond.classLink RL 48 "java/lang/IllegalStateException", Cond.constant RL 18 (-1000001), Cond.constant RL 21 (-1000002)]
def wsL_act_r2 : List Cond := [Cond.methodLink RL 45 yX5_append, Cond.instanceMethod yX5_append, Cond.selects RX5 yX5_append yX5_append, Cond.code yX5_append cX5_append 2 (some .int), Cond.classLink RX5 114 "java/lang/IllegalStateException", Cond.initialized "java/lang/IllegalStateException", Cond.methodLink RX5 41 yX5_needWithin, Cond.static yX5_needWithin, Cond.code yX5_needWithin cX5_needWithin 3 none, Cond.classLink RX5 137 "java/lang/IllegalArgumentException", Cond.initialized "java/lang/IllegalArgumentException", Cond.methodLink RX5 110 yX4_isFull, Cond.instanceMethod yX4_isFull, Cond.selects RX4 yX4_isFull yX4_isFull, Cond.code yX4_isFull cX4_isFull 1 (some .boolean), Cond.methodLink RX5 121 yX4_add, Cond.instanceMethod yX4_add, Cond.selects RX4 yX4_add yX4_add, Cond.code yX4_add cX4_add 2 none, Cond.fieldLink RX4 9 "PotLabels$Text" "codes" "[I", Cond.methodLink RL 95 yL_load, Cond.static yL_load, Cond.codeWith yL_load cL_load 2 (some .int) [(0, 4, 5, 19)], Cond.methodLink RL 50 yX5_load]
def wsL_act_r3 : List Cond := [Cond.instanceMethod yX5_load, Cond.selects RX5 yX5_load yX5_load, Cond.code yX5_load cX5_load 1 (some .int), Cond.fieldLink RX5 19 "PotLabels" "memory" "LPotLabels$Memory;", Cond.fieldLink RX5 12 "PotLabels" "bureau" "LPotLabels$Bureau;", Cond.methodLink RX5 134 yX4_tellsPots, Cond.instanceMethod yX4_tellsPots, Cond.selects RX4 yX4_tellsPots yX4_tellsPots, Cond.code yX4_tellsPots cX4_tellsPots 1 (some .boolean), Cond.methodLink RX4 23 yX4_firstWrong, Cond.instanceMethod yX4_firstWrong, Cond.selects RX4 yX4_firstWrong yX4_firstWrong, Cond.code yX4_firstWrong cX4_firstWrong 2 (some .int), Cond.methodLink RX4 19 yX4_fits, Cond.static yX4_fits, Cond.code yX4_fits cX4_fits 2 (some .boolean), Cond.methodLink RX5 45 yX3_save, Cond.instanceMethod yX3_save, Cond.selects RX3 yX3_save yX3_save, Cond.initialized RX3, Cond.code yX3_save cX3_save 2 none, Cond.fieldLink RX3 25 "PotLabels$Memory" "held" "I", Cond.fieldLink RX3 21 "PotLabels$Memory" "saved" "[LPotLabels$Bureau;", Cond.methodLink RX3 29 yX3_dropOldest]
def wsL_act_r4 : List Cond := [Cond.instanceMethod yX3_dropOldest, Cond.selects RX3 yX3_dropOldest yX3_dropOldest, Cond.code yX3_dropOldest cX3_dropOldest 3 none, Cond.methodLink RX3 32 yX0_copyFrom, Cond.instanceMethod yX0_copyFrom, Cond.selects RX0 yX0_copyFrom yX0_copyFrom, Cond.initialized RX0, Cond.code yX0_copyFrom cX0_copyFrom 2 none, Cond.fieldLink RX0 9 "PotLabels$Bureau" "colours" "[I", Cond.methodLink RX0 33 arraycopyName, Cond.native arraycopyName, Cond.static arraycopyName, Cond.initialized "java/lang/System", Cond.fieldLink RX0 15 "PotLabels$Bureau" "labels" "[I", Cond.fieldLink RX0 18 "PotLabels$Bureau" "kinds" "[I", Cond.fieldLink RX0 21 "PotLabels$Bureau" "sharpnesses" "[I", Cond.fieldLink RX0 24 "PotLabels$Bureau" "lenders" "[I", Cond.fieldLink RX0 27 "PotLabels$Bureau" "figures" "[I", Cond.fieldLink RX0 30 "PotLabels$Bureau" "grounds" "[I", Cond.fieldLink RX0 39 "PotLabels$Bureau" "charts" "I", Cond.fieldLink RX0 43 "PotLabels$Bureau" "corrections" "I", Cond.fieldLink RX0 46 "PotLabels$Bureau" "refusals" "I", Cond.methodLink RX5 142 yX4_giveColours, Cond.instanceMethod yX4_giveColours]
def wsL_act_r5 : List Cond := [Cond.selects RX4 yX4_giveColours yX4_giveColours, Cond.code yX4_giveColours cX4_giveColours 4 none, Cond.methodLink RX5 145 yX0_pairsTold, Cond.instanceMethod yX0_pairsTold, Cond.selects RX0 yX0_pairsTold yX0_pairsTold, Cond.code yX0_pairsTold cX0_pairsTold 6 (some .int), Cond.methodLink RX0 49 yX0_tellsColours, Cond.instanceMethod yX0_tellsColours, Cond.selects RX0 yX0_tellsColours yX0_tellsColours, Cond.code yX0_tellsColours cX0_tellsColours 6 (some .boolean), Cond.methodLink RX0 53 yX1_distance, Cond.static yX1_distance, Cond.initialized RX1, Cond.code yX1_distance cX1_distance 5 (some .int), Cond.methodLink RX1 16 Lib.Math.abs.name, Cond.static Lib.Math.abs.name, Cond.initialized "java/lang/Math", Cond.code Lib.Math.abs.name Lib.Math.abs.code 1 (some .int), Cond.methodLink RX1 13 yX1_seenAs, Cond.static yX1_seenAs, Cond.code yX1_seenAs cX1_seenAs 5 (some .int), Cond.methodLink RL 98 yL_hang, Cond.static yL_hang, Cond.codeWith yL_hang cL_hang 4 (some .int) [(0, 6, 7, 16), (0, 6, 11, 19)]]
def wsL_act_r6 : List Cond := [Cond.classLink RL 16 "java/lang/IndexOutOfBoundsException", Cond.methodLink RL 36 yX5_hang, Cond.instanceMethod yX5_hang, Cond.selects RX5 yX5_hang yX5_hang, Cond.code yX5_hang cX5_hang 3 (some .int), Cond.methodLink RX5 37 yX5_needPot, Cond.static yX5_needPot, Cond.code yX5_needPot cX5_needPot 1 none, Cond.classLink RX5 298 "java/lang/IndexOutOfBoundsException", Cond.initialized "java/lang/IndexOutOfBoundsException", Cond.methodLink RX5 85 yX5_needUnlike, Cond.static yX5_needUnlike, Cond.code yX5_needUnlike cX5_needUnlike 2 none, Cond.methodLink RX5 89 yX0_addChart, Cond.instanceMethod yX0_addChart, Cond.selects RX0 yX0_addChart yX0_addChart, Cond.code yX0_addChart cX0_addChart 3 (some .int), Cond.methodLink RL 101 yL_takeDown, Cond.static yL_takeDown, Cond.codeWith yL_takeDown cL_takeDown 3 (some .int) [(0, 5, 6, 16)], Cond.methodLink RL 39 yX5_takeDown, Cond.instanceMethod yX5_takeDown, Cond.selects RX5 yX5_takeDown yX5_takeDown, Cond.code yX5_takeDown cX5_takeDown 3 (some .int)]
def wsL_act_r7 : List Cond := [Cond.methodLink RX5 92 yX5_needChart, Cond.instanceMethod yX5_needChart, Cond.selects RX5 yX5_needChart yX5_needChart, Cond.code yX5_needChart cX5_needChart 2 none, Cond.methodLink RX5 95 yX0_readersOf, Cond.instanceMethod yX0_readersOf, Cond.selects RX0 yX0_readersOf yX0_readersOf, Cond.code yX0_readersOf cX0_readersOf 2 (some .int), Cond.methodLink RX0 59 yX0_tellersOfPair, Cond.instanceMethod yX0_tellersOfPair, Cond.selects RX0 yX0_tellersOfPair yX0_tellersOfPair, Cond.code yX0_tellersOfPair cX0_tellersOfPair 5 (some .int), Cond.methodLink RX5 99 yJ6_bitCount_0f7a4, Cond.static yJ6_bitCount_0f7a4, Cond.initialized RJ6, Cond.code yJ6_bitCount_0f7a4 cJ6_bitCount_0f7a4 1 (some .int), Cond.constant RJ6 265 (1431655765), Cond.constant RJ6 266 (858993459), Cond.constant RJ6 267 (252645135), Cond.methodLink RX5 104 yX0_removeChart, Cond.instanceMethod yX0_removeChart, Cond.selects RX0 yX0_removeChart yX0_removeChart, Cond.code yX0_removeChart cX0_removeChart 3 none, Cond.methodLink RL 103 yL_correct]
def wsL_act_r8 : List Cond := [Cond.static yL_correct, Cond.codeWith yL_correct cL_correct 4 (some .int) [(0, 6, 7, 16)], Cond.methodLink RL 42 yX5_correct, Cond.instanceMethod yX5_correct, Cond.selects RX5 yX5_correct yX5_correct, Cond.code yX5_correct cX5_correct 3 (some .int), Cond.methodLink RX5 63 yX5_needPainter, Cond.static yX5_needPainter, Cond.code yX5_needPainter cX5_needPainter 1 none, Cond.methodLink RX5 107 yX0_makeReadable, Cond.instanceMethod yX0_makeReadable, Cond.selects RX0 yX0_makeReadable yX0_makeReadable, Cond.code yX0_makeReadable cX0_makeReadable 6 (some .int), Cond.methodLink RX0 79 yX0_nearestColour, Cond.instanceMethod yX0_nearestColour, Cond.selects RX0 yX0_nearestColour yX0_nearestColour, Cond.code yX0_nearestColour cX0_nearestColour 8 (some .int), Cond.methodLink RX0 82 yX1_change, Cond.static yX1_change, Cond.code yX1_change cX1_change 2 (some .int), Cond.methodLink RX1 22 yX1_distance, Cond.methodLink RL 105 yL_labelAll, Cond.static yL_labelAll, Cond.codeWith yL_labelAll cL_labelAll 3 (some .int) [(0, 5, 6, 16)]]
def wsL_act_r9 : List Cond := [Cond.methodLink RL 32 yX5_labelAll, Cond.instanceMethod yX5_labelAll, Cond.selects RX5 yX5_labelAll yX5_labelAll, Cond.code yX5_labelAll cX5_labelAll 2 (some .int), Cond.methodLink RX5 78 yX0_labelInOrder, Cond.instanceMethod yX0_labelInOrder, Cond.selects RX0 yX0_labelInOrder yX0_labelInOrder, Cond.code yX0_labelInOrder cX0_labelInOrder 5 none, Cond.methodLink RX0 69 yX0_tells, Cond.instanceMethod yX0_tells, Cond.selects RX0 yX0_tells yX0_tells, Cond.code yX0_tells cX0_tells 4 (some .boolean), Cond.methodLink RX0 76 yX0_leastOutside, Cond.static yX0_leastOutside, Cond.code yX0_leastOutside cX0_leastOutside 2 (some .int), Cond.methodLink RX5 81 yX0_unlikeLabels, Cond.instanceMethod yX0_unlikeLabels, Cond.selects RX0 yX0_unlikeLabels yX0_unlikeLabels, Cond.code yX0_unlikeLabels cX0_unlikeLabels 3 (some .int), Cond.methodLink RX0 63 yJ6_bitCount_0f7a4, Cond.methodLink RL 107 yL_label, Cond.static yL_label, Cond.codeWith yL_label cL_label 4 (some .int) [(0, 6, 7, 16), (0, 6, 11, 19)], Cond.methodLink RL 29 yX5_label]
def wsL_act_r10 : List Cond := [Cond.instanceMethod yX5_label, Cond.selects RX5 yX5_label yX5_label, Cond.code yX5_label cX5_label 4 (some .int), Cond.methodLink RL 109 yL_borrow, Cond.static yL_borrow, Cond.codeWith yL_borrow cL_borrow 4 (some .int) [(0, 6, 7, 16)], Cond.methodLink RL 25 yX5_borrow, Cond.instanceMethod yX5_borrow, Cond.selects RX5 yX5_borrow yX5_borrow, Cond.code yX5_borrow cX5_borrow 4 (some .int), Cond.methodLink RL 111 yL_painter, Cond.static yL_painter, Cond.codeWith yL_painter cL_painter 5 (some .int) [(0, 7, 8, 16), (0, 7, 13, 19)], Cond.methodLink RL 22 yX5_painter, Cond.instanceMethod yX5_painter, Cond.selects RX5 yX5_painter yX5_painter, Cond.code yX5_painter cX5_painter 6 (some .int), Cond.methodLink RL 114 yL_mix, Cond.static yL_mix, Cond.codeWith yL_mix cL_mix 5 (some .int) [(0, 7, 8, 16), (0, 7, 13, 19)], Cond.methodLink RL 10 yX5_mix, Cond.instanceMethod yX5_mix, Cond.selects RX5 yX5_mix yX5_mix, Cond.code yX5_mix cX5_mix 5 (some .int)]
def wsL_act_r11 : List Cond := [Cond.methodLink RX5 53 yX1_partOf, Cond.static yX1_partOf, Cond.code yX1_partOf cX1_partOf 2 (some .int), Cond.methodLink RX5 59 yX1_withPart, Cond.static yX1_withPart, Cond.code yX1_withPart cX1_withPart 4 (some .int), Cond.methodLink RX1 7 yX1_partOf]
def wsL_act : List Cond := .code yL_act cL_act 7 (some .int) :: ((wsL_act_r1 ++ (wsL_act_r2 ++ (wsL_act_r3 ++ (wsL_act_r4 ++ (wsL_act_r5 ++ (wsL_act_r6 ++ (wsL_act_r7 ++ (wsL_act_r8 ++ (wsL_act_r9 ++ (wsL_act_r10 ++ wsL_act_r11)))))))))) ++ wsX50 ++ wsX40 ++ wsX00 ++ wsX30 ++ (vx_atS RX5 118 "java/lang/IllegalStateException" ["java/lang/RuntimeException", "java/lang/Exception"]).filter goodWord ++ (vx_atS RX5 141 "java/lang/IllegalArgumentException" ["java/lang/RuntimeException", "java/lang/Exception"]).filter goodWord ++ (vx_atS RX5 302 "java/lang/IndexOutOfBoundsException" ["java/lang/RuntimeException", "java/lang/Exception"]).filter goodWord)
def wsL_far : List Cond := .code yL_far cL_far 5 (some .int) :: ([])
def wsL_hangs_r1 : List Cond := [Cond.arrayClass .int, Cond.constantDouble RL 140 (4637581716284768256), Cond.methodLink RL 116 yL_painterOf, Cond.static yL_painterOf, Cond.initialized RL, Cond.codeWith yL_painterOf cL_painterOf 4 (some .int) [(0, 6, 7, 16), (0, 6, 11, 19)], Cond.classLink RL 16 "java/lang/IndexOutOfBoundsException", Cond.classLink RL 19 "java/lang/IllegalArgumentException", Cond.constant RL 18 (-1000001), Cond.constant RL 21 (-1000002), Cond.methodLink RL 63 yX5_painterOf, Cond.instanceMethod yX5_painterOf, Cond.selects RX5 yX5_painterOf yX5_painterOf, Cond.initialized RX5, Cond.code yX5_painterOf cX5_painterOf 3 (some .int), Cond.classLink RX5 137 "java/lang/IllegalArgumentException", Cond.initialized "java/lang/IllegalArgumentException", Cond.fieldLink RX5 12 "PotLabels" "bureau" "LPotLabels$Bureau;", Cond.methodLink RX5 63 yX5_needPainter, Cond.static yX5_needPainter, Cond.code yX5_needPainter cX5_needPainter 1 none, Cond.classLink RX5 298 "java/lang/IndexOutOfBoundsException", Cond.initialized "java/lang/IndexOutOfBoundsException", Cond.methodLink RX5 145 yX0_pairsTold]
def wsL_hangs_r2 : List Cond := [Cond.instanceMethod yX0_pairsTold, Cond.selects RX0 yX0_pairsTold yX0_pairsTold, Cond.initialized RX0, Cond.code yX0_pairsTold cX0_pairsTold 6 (some .int), Cond.fieldLink RX0 9 "PotLabels$Bureau" "colours" "[I", Cond.methodLink RX0 49 yX0_tellsColours, Cond.instanceMethod yX0_tellsColours, Cond.selects RX0 yX0_tellsColours yX0_tellsColours, Cond.code yX0_tellsColours cX0_tellsColours 6 (some .boolean), Cond.fieldLink RX0 21 "PotLabels$Bureau" "sharpnesses" "[I", Cond.fieldLink RX0 18 "PotLabels$Bureau" "kinds" "[I", Cond.methodLink RX0 53 yX1_distance, Cond.static yX1_distance, Cond.initialized RX1, Cond.code yX1_distance cX1_distance 5 (some .int), Cond.methodLink RX1 16 Lib.Math.abs.name, Cond.static Lib.Math.abs.name, Cond.initialized "java/lang/Math", Cond.code Lib.Math.abs.name Lib.Math.abs.code 1 (some .int), Cond.methodLink RX1 13 yX1_seenAs, Cond.static yX1_seenAs, Cond.code yX1_seenAs cX1_seenAs 5 (some .int), Cond.methodLink RX5 178 yX0_wrongPairs, Cond.instanceMethod yX0_wrongPairs]
def wsL_hangs_r3 : List Cond := [Cond.selects RX0 yX0_wrongPairs yX0_wrongPairs, Cond.code yX0_wrongPairs cX0_wrongPairs 5 (some .int), Cond.fieldLink RX0 15 "PotLabels$Bureau" "labels" "[I", Cond.methodLink RX0 69 yX0_tells, Cond.instanceMethod yX0_tells, Cond.selects RX0 yX0_tells yX0_tells, Cond.code yX0_tells cX0_tells 4 (some .boolean), Cond.fieldLink RX0 24 "PotLabels$Bureau" "lenders" "[I", Cond.methodLink RX5 181 yX0_chartsRead, Cond.instanceMethod yX0_chartsRead, Cond.selects RX0 yX0_chartsRead yX0_chartsRead, Cond.code yX0_chartsRead cX0_chartsRead 4 (some .int), Cond.fieldLink RX0 39 "PotLabels$Bureau" "charts" "I", Cond.fieldLink RX0 27 "PotLabels$Bureau" "figures" "[I", Cond.fieldLink RX0 30 "PotLabels$Bureau" "grounds" "[I", Cond.methodLink RL 118 yL_apart, Cond.static yL_apart, Cond.codeWith yL_apart cL_apart 5 (some .int) [(0, 7, 8, 16)], Cond.methodLink RL 66 yX5_apart, Cond.instanceMethod yX5_apart, Cond.selects RX5 yX5_apart yX5_apart, Cond.code yX5_apart cX5_apart 4 (some .int), Cond.methodLink RX5 37 yX5_needPot, Cond.static yX5_needPot]
def wsL_hangs_r4 : List Cond := [Cond.code yX5_needPot cX5_needPot 1 none, Cond.methodLink RX5 186 yX0_tells, Cond.methodLink RL 120 yL_seen, Cond.static yL_seen, Cond.codeWith yL_seen cL_seen 4 (some .int) [(0, 6, 7, 16)], Cond.methodLink RL 60 yX5_seen, Cond.instanceMethod yX5_seen, Cond.selects RX5 yX5_seen yX5_seen, Cond.code yX5_seen cX5_seen 3 (some .int), Cond.methodLink RX5 175 yX1_seenAs, Cond.methodLink RL 122 yL_far, Cond.static yL_far, Cond.code yL_far cL_far 5 (some .int), Cond.methodLink RL 125 yL_potOf, Cond.static yL_potOf, Cond.codeWith yL_potOf cL_potOf 4 (some .int) [(0, 6, 7, 16), (0, 6, 11, 19)], Cond.methodLink RL 57 yX5_potOf, Cond.instanceMethod yX5_potOf, Cond.selects RX5 yX5_potOf yX5_potOf, Cond.code yX5_potOf cX5_potOf 3 (some .int), Cond.methodLink RX5 41 yX5_needWithin, Cond.static yX5_needWithin, Cond.code yX5_needWithin cX5_needWithin 3 none, Cond.methodLink RX5 53 yX1_partOf]
def wsL_hangs_r5 : List Cond := [Cond.static yX1_partOf, Cond.code yX1_partOf cX1_partOf 2 (some .int), Cond.methodLink RX5 172 yX0_tellersOf, Cond.instanceMethod yX0_tellersOf, Cond.selects RX0 yX0_tellersOf yX0_tellersOf, Cond.code yX0_tellersOf cX0_tellersOf 4 (some .int), Cond.methodLink RX0 59 yX0_tellersOfPair, Cond.instanceMethod yX0_tellersOfPair, Cond.selects RX0 yX0_tellersOfPair yX0_tellersOfPair, Cond.code yX0_tellersOfPair cX0_tellersOfPair 5 (some .int), Cond.methodLink RL 127 yL_count, Cond.static yL_count, Cond.codeWith yL_count cL_count 3 (some .int) [(0, 5, 6, 19)], Cond.methodLink RL 72 yX5_count, Cond.instanceMethod yX5_count, Cond.selects RX5 yX5_count yX5_count, Cond.code yX5_count cX5_count 2 (some .int), Cond.fieldLink RX5 19 "PotLabels" "memory" "LPotLabels$Memory;", Cond.methodLink RX5 159 yX0_labelled, Cond.instanceMethod yX0_labelled, Cond.selects RX0 yX0_labelled yX0_labelled, Cond.code yX0_labelled cX0_labelled 3 (some .int), Cond.methodLink RX5 81 yX0_unlikeLabels, Cond.instanceMethod yX0_unlikeLabels]
def wsL_hangs_r6 : List Cond := [Cond.selects RX0 yX0_unlikeLabels yX0_unlikeLabels, Cond.code yX0_unlikeLabels cX0_unlikeLabels 3 (some .int), Cond.methodLink RX0 63 yJ6_bitCount_0f7a4, Cond.static yJ6_bitCount_0f7a4, Cond.initialized RJ6, Cond.code yJ6_bitCount_0f7a4 cJ6_bitCount_0f7a4 1 (some .int), Cond.constant RJ6 265 (1431655765), Cond.constant RJ6 266 (858993459), Cond.constant RJ6 267 (252645135), Cond.methodLink RX5 201 yX0_pairsToldByNobody, Cond.instanceMethod yX0_pairsToldByNobody, Cond.selects RX0 yX0_pairsToldByNobody yX0_pairsToldByNobody, Cond.code yX0_pairsToldByNobody cX0_pairsToldByNobody 4 (some .int), Cond.methodLink RX5 204 yX0_paintersServed, Cond.instanceMethod yX0_paintersServed, Cond.selects RX0 yX0_paintersServed yX0_paintersServed, Cond.code yX0_paintersServed cX0_paintersServed 3 (some .int), Cond.methodLink RX0 73 yX0_wrongPairs, Cond.methodLink RL 129 yL_chartOf, Cond.static yL_chartOf, Cond.codeWith yL_chartOf cL_chartOf 4 (some .int) [(0, 6, 7, 16), (0, 6, 11, 19)], Cond.methodLink RL 69 yX5_chartOf, Cond.instanceMethod yX5_chartOf, Cond.selects RX5 yX5_chartOf yX5_chartOf]
def wsL_hangs_r7 : List Cond := [Cond.code yX5_chartOf cX5_chartOf 3 (some .int), Cond.methodLink RX5 92 yX5_needChart, Cond.instanceMethod yX5_needChart, Cond.selects RX5 yX5_needChart yX5_needChart, Cond.code yX5_needChart cX5_needChart 2 none, Cond.methodLink RX5 95 yX0_readersOf, Cond.instanceMethod yX0_readersOf, Cond.selects RX0 yX0_readersOf yX0_readersOf, Cond.code yX0_readersOf cX0_readersOf 2 (some .int), Cond.methodLink RL 131 yL_ifBorrowed, Cond.static yL_ifBorrowed, Cond.codeWith yL_ifBorrowed cL_ifBorrowed 4 (some .int) [(0, 6, 7, 16)], Cond.methodLink RL 78 yX5_ifBorrowed, Cond.instanceMethod yX5_ifBorrowed, Cond.selects RX5 yX5_ifBorrowed yX5_ifBorrowed, Cond.code yX5_ifBorrowed cX5_ifBorrowed 3 (some .int), Cond.methodLink RL 133 yX5_bestPainter, Cond.instanceMethod yX5_bestPainter, Cond.selects RX5 yX5_bestPainter yX5_bestPainter, Cond.code yX5_bestPainter cX5_bestPainter 5 (some .int), Cond.methodLink RL 136 yX5_apartShare, Cond.instanceMethod yX5_apartShare, Cond.selects RX5 yX5_apartShare yX5_apartShare, Cond.code yX5_apartShare cX5_apartShare 3 (some .double)]
def wsL_hangs_r8 : List Cond := [Cond.constantDouble RX5 231 (4637581716284768256)]
def wsL_hangs : List Cond := .code yL_hangs cL_hangs 14 (some .boolean) :: ((wsL_hangs_r1 ++ (wsL_hangs_r2 ++ (wsL_hangs_r3 ++ (wsL_hangs_r4 ++ (wsL_hangs_r5 ++ (wsL_hangs_r6 ++ (wsL_hangs_r7 ++ wsL_hangs_r8))))))) ++ wsX50 ++ wsX00 ++ wsX30 ++ (vx_atS RX5 141 "java/lang/IllegalArgumentException" ["java/lang/RuntimeException", "java/lang/Exception"]).filter goodWord ++ (vx_atS RX5 302 "java/lang/IndexOutOfBoundsException" ["java/lang/RuntimeException", "java/lang/Exception"]).filter goodWord)
def wsL_print_r1 : List Cond := [Cond.constantLong RL 142 (19), Cond.constantLong RL 144 (31), Cond.methodLink RL 127 yL_count, Cond.static yL_count, Cond.initialized RL, Cond.codeWith yL_count cL_count 3 (some .int) [(0, 5, 6, 19)], Cond.classLink RL 19 "java/lang/IllegalArgumentException", Cond.constant RL 18 (-1000001), Cond.methodLink RL 72 yX5_count, Cond.instanceMethod yX5_count, Cond.selects RX5 yX5_count yX5_count, Cond.initialized RX5, Cond.code yX5_count cX5_count 2 (some .int), Cond.classLink RX5 137 "java/lang/IllegalArgumentException", Cond.initialized "java/lang/IllegalArgumentException", Cond.fieldLink RX5 12 "PotLabels" "bureau" "LPotLabels$Bureau;", Cond.fieldLink RX5 19 "PotLabels" "memory" "LPotLabels$Memory;", Cond.methodLink RX5 159 yX0_labelled, Cond.instanceMethod yX0_labelled, Cond.selects RX0 yX0_labelled yX0_labelled, Cond.initialized RX0, Cond.code yX0_labelled cX0_labelled 3 (some .int), Cond.fieldLink RX0 15 "PotLabels$Bureau" "labels" "[I", Cond.methodLink RX5 81 yX0_unlikeLabels]
def wsL_print_r2 : List Cond := [Cond.instanceMethod yX0_unlikeLabels, Cond.selects RX0 yX0_unlikeLabels yX0_unlikeLabels, Cond.code yX0_unlikeLabels cX0_unlikeLabels 3 (some .int), Cond.methodLink RX0 63 yJ6_bitCount_0f7a4, Cond.static yJ6_bitCount_0f7a4, Cond.initialized RJ6, Cond.code yJ6_bitCount_0f7a4 cJ6_bitCount_0f7a4 1 (some .int), Cond.constant RJ6 265 (1431655765), Cond.constant RJ6 266 (858993459), Cond.constant RJ6 267 (252645135), Cond.methodLink RX5 201 yX0_pairsToldByNobody, Cond.instanceMethod yX0_pairsToldByNobody, Cond.selects RX0 yX0_pairsToldByNobody yX0_pairsToldByNobody, Cond.code yX0_pairsToldByNobody cX0_pairsToldByNobody 4 (some .int), Cond.methodLink RX0 59 yX0_tellersOfPair, Cond.instanceMethod yX0_tellersOfPair, Cond.selects RX0 yX0_tellersOfPair yX0_tellersOfPair, Cond.code yX0_tellersOfPair cX0_tellersOfPair 5 (some .int), Cond.fieldLink RX0 24 "PotLabels$Bureau" "lenders" "[I", Cond.fieldLink RX0 9 "PotLabels$Bureau" "colours" "[I", Cond.methodLink RX0 49 yX0_tellsColours, Cond.instanceMethod yX0_tellsColours, Cond.selects RX0 yX0_tellsColours yX0_tellsColours, Cond.code yX0_tellsColours cX0_tellsColours 6 (some .boolean)]
def wsL_print_r3 : List Cond := [Cond.fieldLink RX0 21 "PotLabels$Bureau" "sharpnesses" "[I", Cond.fieldLink RX0 18 "PotLabels$Bureau" "kinds" "[I", Cond.methodLink RX0 53 yX1_distance, Cond.static yX1_distance, Cond.initialized RX1, Cond.code yX1_distance cX1_distance 5 (some .int), Cond.methodLink RX1 16 Lib.Math.abs.name, Cond.static Lib.Math.abs.name, Cond.initialized "java/lang/Math", Cond.code Lib.Math.abs.name Lib.Math.abs.code 1 (some .int), Cond.methodLink RX1 13 yX1_seenAs, Cond.static yX1_seenAs, Cond.code yX1_seenAs cX1_seenAs 5 (some .int), Cond.methodLink RX5 204 yX0_paintersServed, Cond.instanceMethod yX0_paintersServed, Cond.selects RX0 yX0_paintersServed yX0_paintersServed, Cond.code yX0_paintersServed cX0_paintersServed 3 (some .int), Cond.methodLink RX0 73 yX0_wrongPairs, Cond.instanceMethod yX0_wrongPairs, Cond.selects RX0 yX0_wrongPairs yX0_wrongPairs, Cond.code yX0_wrongPairs cX0_wrongPairs 5 (some .int), Cond.methodLink RX0 69 yX0_tells, Cond.instanceMethod yX0_tells, Cond.selects RX0 yX0_tells yX0_tells]
def wsL_print_r4 : List Cond := [Cond.code yX0_tells cX0_tells 4 (some .boolean), Cond.methodLink RL 125 yL_potOf, Cond.static yL_potOf, Cond.codeWith yL_potOf cL_potOf 4 (some .int) [(0, 6, 7, 16), (0, 6, 11, 19)], Cond.classLink RL 16 "java/lang/IndexOutOfBoundsException", Cond.constant RL 21 (-1000002), Cond.methodLink RL 57 yX5_potOf, Cond.instanceMethod yX5_potOf, Cond.selects RX5 yX5_potOf yX5_potOf, Cond.code yX5_potOf cX5_potOf 3 (some .int), Cond.methodLink RX5 37 yX5_needPot, Cond.static yX5_needPot, Cond.code yX5_needPot cX5_needPot 1 none, Cond.classLink RX5 298 "java/lang/IndexOutOfBoundsException", Cond.initialized "java/lang/IndexOutOfBoundsException", Cond.methodLink RX5 41 yX5_needWithin, Cond.static yX5_needWithin, Cond.code yX5_needWithin cX5_needWithin 3 none, Cond.methodLink RX5 53 yX1_partOf, Cond.static yX1_partOf, Cond.code yX1_partOf cX1_partOf 2 (some .int), Cond.methodLink RX5 172 yX0_tellersOf, Cond.instanceMethod yX0_tellersOf, Cond.selects RX0 yX0_tellersOf yX0_tellersOf]
def wsL_print_r5 : List Cond := [Cond.code yX0_tellersOf cX0_tellersOf 4 (some .int), Cond.methodLink RL 116 yL_painterOf, Cond.static yL_painterOf, Cond.codeWith yL_painterOf cL_painterOf 4 (some .int) [(0, 6, 7, 16), (0, 6, 11, 19)], Cond.methodLink RL 63 yX5_painterOf, Cond.instanceMethod yX5_painterOf, Cond.selects RX5 yX5_painterOf yX5_painterOf, Cond.code yX5_painterOf cX5_painterOf 3 (some .int), Cond.methodLink RX5 63 yX5_needPainter, Cond.static yX5_needPainter, Cond.code yX5_needPainter cX5_needPainter 1 none, Cond.methodLink RX5 145 yX0_pairsTold, Cond.instanceMethod yX0_pairsTold, Cond.selects RX0 yX0_pairsTold yX0_pairsTold, Cond.code yX0_pairsTold cX0_pairsTold 6 (some .int), Cond.methodLink RX5 178 yX0_wrongPairs, Cond.methodLink RX5 181 yX0_chartsRead, Cond.instanceMethod yX0_chartsRead, Cond.selects RX0 yX0_chartsRead yX0_chartsRead, Cond.code yX0_chartsRead cX0_chartsRead 4 (some .int), Cond.fieldLink RX0 39 "PotLabels$Bureau" "charts" "I", Cond.fieldLink RX0 27 "PotLabels$Bureau" "figures" "[I", Cond.fieldLink RX0 30 "PotLabels$Bureau" "grounds" "[I", Cond.methodLink RL 129 yL_chartOf]
def wsL_print_r6 : List Cond := [Cond.static yL_chartOf, Cond.codeWith yL_chartOf cL_chartOf 4 (some .int) [(0, 6, 7, 16), (0, 6, 11, 19)], Cond.methodLink RL 69 yX5_chartOf, Cond.instanceMethod yX5_chartOf, Cond.selects RX5 yX5_chartOf yX5_chartOf, Cond.code yX5_chartOf cX5_chartOf 3 (some .int), Cond.methodLink RX5 92 yX5_needChart, Cond.instanceMethod yX5_needChart, Cond.selects RX5 yX5_needChart yX5_needChart, Cond.code yX5_needChart cX5_needChart 2 none, Cond.methodLink RX5 95 yX0_readersOf, Cond.instanceMethod yX0_readersOf, Cond.selects RX0 yX0_readersOf yX0_readersOf, Cond.code yX0_readersOf cX0_readersOf 2 (some .int)]
def wsL_print : List Cond := .code yL_print cL_print 4 (some .long) :: ((wsL_print_r1 ++ (wsL_print_r2 ++ (wsL_print_r3 ++ (wsL_print_r4 ++ (wsL_print_r5 ++ wsL_print_r6))))) ++ wsX50 ++ wsX00 ++ wsX30 ++ (vx_atS RX5 141 "java/lang/IllegalArgumentException" ["java/lang/RuntimeException", "java/lang/Exception"]).filter goodWord ++ (vx_atS RX5 302 "java/lang/IndexOutOfBoundsException" ["java/lang/RuntimeException", "java/lang/Exception"]).filter goodWord)
def wsL_labels_r1 : List Cond := [Cond.methodLink RL 146 yL_print, Cond.static yL_print, Cond.initialized RL, Cond.code yL_print cL_print 4 (some .long), Cond.constantLong RL 142 (19), Cond.constantLong RL 144 (31), Cond.methodLink RL 127 yL_count, Cond.static yL_count, Cond.codeWith yL_count cL_count 3 (some .int) [(0, 5, 6, 19)], Cond.classLink RL 19 "java/lang/IllegalArgumentException", Cond.constant RL 18 (-1000001), Cond.methodLink RL 72 yX5_count, Cond.instanceMethod yX5_count, Cond.selects RX5 yX5_count yX5_count, Cond.initialized RX5, Cond.code yX5_count cX5_count 2 (some .int), Cond.classLink RX5 137 "java/lang/IllegalArgumentException", Cond.initialized "java/lang/IllegalArgumentException", Cond.fieldLink RX5 12 "PotLabels" "bureau" "LPotLabels$Bureau;", Cond.fieldLink RX5 19 "PotLabels" "memory" "LPotLabels$Memory;", Cond.methodLink RX5 159 yX0_labelled, Cond.instanceMethod yX0_labelled, Cond.selects RX0 yX0_labelled yX0_labelled, Cond.initialized RX0]
def wsL_labels_r2 : List Cond := [Cond.code yX0_labelled cX0_labelled 3 (some .int), Cond.fieldLink RX0 15 "PotLabels$Bureau" "labels" "[I", Cond.methodLink RX5 81 yX0_unlikeLabels, Cond.instanceMethod yX0_unlikeLabels, Cond.selects RX0 yX0_unlikeLabels yX0_unlikeLabels, Cond.code yX0_unlikeLabels cX0_unlikeLabels 3 (some .int), Cond.methodLink RX0 63 yJ6_bitCount_0f7a4, Cond.static yJ6_bitCount_0f7a4, Cond.initialized RJ6, Cond.code yJ6_bitCount_0f7a4 cJ6_bitCount_0f7a4 1 (some .int), Cond.constant RJ6 265 (1431655765), Cond.constant RJ6 266 (858993459), Cond.constant RJ6 267 (252645135), Cond.methodLink RX5 201 yX0_pairsToldByNobody, Cond.instanceMethod yX0_pairsToldByNobody, Cond.selects RX0 yX0_pairsToldByNobody yX0_pairsToldByNobody, Cond.code yX0_pairsToldByNobody cX0_pairsToldByNobody 4 (some .int), Cond.methodLink RX0 59 yX0_tellersOfPair, Cond.instanceMethod yX0_tellersOfPair, Cond.selects RX0 yX0_tellersOfPair yX0_tellersOfPair, Cond.code yX0_tellersOfPair cX0_tellersOfPair 5 (some .int), Cond.fieldLink RX0 24 "PotLabels$Bureau" "lenders" "[I", Cond.fieldLink RX0 9 "PotLabels$Bureau" "colours" "[I", Cond.methodLink RX0 49 yX0_tellsColours]
def wsL_labels_r3 : List Cond := [Cond.instanceMethod yX0_tellsColours, Cond.selects RX0 yX0_tellsColours yX0_tellsColours, Cond.code yX0_tellsColours cX0_tellsColours 6 (some .boolean), Cond.fieldLink RX0 21 "PotLabels$Bureau" "sharpnesses" "[I", Cond.fieldLink RX0 18 "PotLabels$Bureau" "kinds" "[I", Cond.methodLink RX0 53 yX1_distance, Cond.static yX1_distance, Cond.initialized RX1, Cond.code yX1_distance cX1_distance 5 (some .int), Cond.methodLink RX1 16 Lib.Math.abs.name, Cond.static Lib.Math.abs.name, Cond.initialized "java/lang/Math", Cond.code Lib.Math.abs.name Lib.Math.abs.code 1 (some .int), Cond.methodLink RX1 13 yX1_seenAs, Cond.static yX1_seenAs, Cond.code yX1_seenAs cX1_seenAs 5 (some .int), Cond.methodLink RX5 204 yX0_paintersServed, Cond.instanceMethod yX0_paintersServed, Cond.selects RX0 yX0_paintersServed yX0_paintersServed, Cond.code yX0_paintersServed cX0_paintersServed 3 (some .int), Cond.methodLink RX0 73 yX0_wrongPairs, Cond.instanceMethod yX0_wrongPairs, Cond.selects RX0 yX0_wrongPairs yX0_wrongPairs, Cond.code yX0_wrongPairs cX0_wrongPairs 5 (some .int)]
def wsL_labels_r4 : List Cond := [Cond.methodLink RX0 69 yX0_tells, Cond.instanceMethod yX0_tells, Cond.selects RX0 yX0_tells yX0_tells, Cond.code yX0_tells cX0_tells 4 (some .boolean), Cond.methodLink RL 125 yL_potOf, Cond.static yL_potOf, Cond.codeWith yL_potOf cL_potOf 4 (some .int) [(0, 6, 7, 16), (0, 6, 11, 19)], Cond.classLink RL 16 "java/lang/IndexOutOfBoundsException", Cond.constant RL 21 (-1000002), Cond.methodLink RL 57 yX5_potOf, Cond.instanceMethod yX5_potOf, Cond.selects RX5 yX5_potOf yX5_potOf, Cond.code yX5_potOf cX5_potOf 3 (some .int), Cond.methodLink RX5 37 yX5_needPot, Cond.static yX5_needPot, Cond.code yX5_needPot cX5_needPot 1 none, Cond.classLink RX5 298 "java/lang/IndexOutOfBoundsException", Cond.initialized "java/lang/IndexOutOfBoundsException", Cond.methodLink RX5 41 yX5_needWithin, Cond.static yX5_needWithin, Cond.code yX5_needWithin cX5_needWithin 3 none, Cond.methodLink RX5 53 yX1_partOf, Cond.static yX1_partOf, Cond.code yX1_partOf cX1_partOf 2 (some .int)]
def wsL_labels_r5 : List Cond := [Cond.methodLink RX5 172 yX0_tellersOf, Cond.instanceMethod yX0_tellersOf, Cond.selects RX0 yX0_tellersOf yX0_tellersOf, Cond.code yX0_tellersOf cX0_tellersOf 4 (some .int), Cond.methodLink RL 116 yL_painterOf, Cond.static yL_painterOf, Cond.codeWith yL_painterOf cL_painterOf 4 (some .int) [(0, 6, 7, 16), (0, 6, 11, 19)], Cond.methodLink RL 63 yX5_painterOf, Cond.instanceMethod yX5_painterOf, Cond.selects RX5 yX5_painterOf yX5_painterOf, Cond.code yX5_painterOf cX5_painterOf 3 (some .int), Cond.methodLink RX5 63 yX5_needPainter, Cond.static yX5_needPainter, Cond.code yX5_needPainter cX5_needPainter 1 none, Cond.methodLink RX5 145 yX0_pairsTold, Cond.instanceMethod yX0_pairsTold, Cond.selects RX0 yX0_pairsTold yX0_pairsTold, Cond.code yX0_pairsTold cX0_pairsTold 6 (some .int), Cond.methodLink RX5 178 yX0_wrongPairs, Cond.methodLink RX5 181 yX0_chartsRead, Cond.instanceMethod yX0_chartsRead, Cond.selects RX0 yX0_chartsRead yX0_chartsRead, Cond.code yX0_chartsRead cX0_chartsRead 4 (some .int), Cond.fieldLink RX0 39 "PotLabels$Bureau" "charts" "I"]
def wsL_labels_r6 : List Cond := [Cond.fieldLink RX0 27 "PotLabels$Bureau" "figures" "[I", Cond.fieldLink RX0 30 "PotLabels$Bureau" "grounds" "[I", Cond.methodLink RL 129 yL_chartOf, Cond.static yL_chartOf, Cond.codeWith yL_chartOf cL_chartOf 4 (some .int) [(0, 6, 7, 16), (0, 6, 11, 19)], Cond.methodLink RL 69 yX5_chartOf, Cond.instanceMethod yX5_chartOf, Cond.selects RX5 yX5_chartOf yX5_chartOf, Cond.code yX5_chartOf cX5_chartOf 3 (some .int), Cond.methodLink RX5 92 yX5_needChart, Cond.instanceMethod yX5_needChart, Cond.selects RX5 yX5_needChart yX5_needChart, Cond.code yX5_needChart cX5_needChart 2 none, Cond.methodLink RX5 95 yX0_readersOf, Cond.instanceMethod yX0_readersOf, Cond.selects RX0 yX0_readersOf yX0_readersOf, Cond.code yX0_readersOf cX0_readersOf 2 (some .int), Cond.methodLink RL 150 yL_fewest, Cond.static yL_fewest, Cond.codeWith yL_fewest cL_fewest 4 (some .int) [(0, 6, 7, 16), (0, 6, 11, 19)], Cond.methodLink RL 75 yX5_fewest, Cond.instanceMethod yX5_fewest, Cond.selects RX5 yX5_fewest yX5_fewest, Cond.code yX5_fewest cX5_fewest 3 (some .int)]
def wsL_labels_r7 : List Cond := [Cond.fieldLink RX5 33 "PotLabels" "labelling" "LPotLabels$Labelling;", Cond.methodLink RX5 215 yX2_look, Cond.instanceMethod yX2_look, Cond.selects RX2 yX2_look yX2_look, Cond.initialized RX2, Cond.code yX2_look cX2_look 5 none, Cond.fieldLink RX2 9 "PotLabels$Labelling" "rivals" "[I", Cond.methodLink RX2 25 yX0_tells, Cond.methodLink RX5 219 yX2_fewestBySets, Cond.instanceMethod yX2_fewestBySets, Cond.selects RX2 yX2_fewestBySets yX2_fewestBySets, Cond.code yX2_fewestBySets cX2_fewestBySets 4 (some .int), Cond.fieldLink RX2 15 "PotLabels$Labelling" "peaceful" "[Z", Cond.fieldLink RX2 19 "PotLabels$Labelling" "needs" "[I", Cond.methodLink RX2 31 yX2_needOf, Cond.instanceMethod yX2_needOf, Cond.selects RX2 yX2_needOf yX2_needOf, Cond.code yX2_needOf cX2_needOf 5 (some .int), Cond.methodLink RX2 35 Lib.Math.min.name, Cond.static Lib.Math.min.name, Cond.code Lib.Math.min.name Lib.Math.min.code 2 (some .int), Cond.methodLink RX5 222 yX2_fewestByTrying, Cond.instanceMethod yX2_fewestByTrying, Cond.selects RX2 yX2_fewestByTrying yX2_fewestByTrying]
def wsL_labels_r8 : List Cond := [Cond.code yX2_fewestByTrying cX2_fewestByTrying 1 (some .int), Cond.fieldLink RX2 22 "PotLabels$Labelling" "bearers" "[I", Cond.methodLink RX2 40 yX2_fewestFrom, Cond.static yX2_fewestFrom, Cond.code yX2_fewestFrom cX2_fewestFrom 8 (some .int), Cond.methodLink RL 105 yL_labelAll, Cond.static yL_labelAll, Cond.codeWith yL_labelAll cL_labelAll 3 (some .int) [(0, 5, 6, 16)], Cond.methodLink RL 32 yX5_labelAll, Cond.instanceMethod yX5_labelAll, Cond.selects RX5 yX5_labelAll yX5_labelAll, Cond.code yX5_labelAll cX5_labelAll 2 (some .int), Cond.methodLink RX5 45 yX3_save, Cond.instanceMethod yX3_save, Cond.selects RX3 yX3_save yX3_save, Cond.initialized RX3, Cond.code yX3_save cX3_save 2 none, Cond.fieldLink RX3 25 "PotLabels$Memory" "held" "I", Cond.fieldLink RX3 21 "PotLabels$Memory" "saved" "[LPotLabels$Bureau;", Cond.methodLink RX3 29 yX3_dropOldest, Cond.instanceMethod yX3_dropOldest, Cond.selects RX3 yX3_dropOldest yX3_dropOldest, Cond.code yX3_dropOldest cX3_dropOldest 3 none, Cond.methodLink RX3 32 yX0_copyFrom]
def wsL_labels_r9 : List Cond := [Cond.instanceMethod yX0_copyFrom, Cond.selects RX0 yX0_copyFrom yX0_copyFrom, Cond.code yX0_copyFrom cX0_copyFrom 2 none, Cond.methodLink RX0 33 arraycopyName, Cond.native arraycopyName, Cond.static arraycopyName, Cond.initialized "java/lang/System", Cond.fieldLink RX0 43 "PotLabels$Bureau" "corrections" "I", Cond.fieldLink RX0 46 "PotLabels$Bureau" "refusals" "I", Cond.methodLink RX5 78 yX0_labelInOrder, Cond.instanceMethod yX0_labelInOrder, Cond.selects RX0 yX0_labelInOrder yX0_labelInOrder, Cond.code yX0_labelInOrder cX0_labelInOrder 5 none, Cond.methodLink RX0 76 yX0_leastOutside, Cond.static yX0_leastOutside, Cond.code yX0_leastOutside cX0_leastOutside 2 (some .int), Cond.methodLink RL 118 yL_apart, Cond.static yL_apart, Cond.codeWith yL_apart cL_apart 5 (some .int) [(0, 7, 8, 16)], Cond.methodLink RL 66 yX5_apart, Cond.instanceMethod yX5_apart, Cond.selects RX5 yX5_apart yX5_apart, Cond.code yX5_apart cX5_apart 4 (some .int), Cond.methodLink RX5 186 yX0_tells]
def wsL_labels_r10 : List Cond := [Cond.methodLink RL 152 yL_undo, Cond.static yL_undo, Cond.codeWith yL_undo cL_undo 2 (some .int) [(0, 4, 5, 48)], Cond.classLink RL 48 "java/lang/IllegalStateException", Cond.methodLink RL 54 yX5_undo, Cond.instanceMethod yX5_undo, Cond.selects RX5 yX5_undo yX5_undo, Cond.code yX5_undo cX5_undo 1 (some .int), Cond.classLink RX5 114 "java/lang/IllegalStateException", Cond.initialized "java/lang/IllegalStateException", Cond.methodLink RX5 169 yX3_restore, Cond.instanceMethod yX3_restore, Cond.selects RX3 yX3_restore yX3_restore, Cond.code yX3_restore cX3_restore 2 none]
def wsL_labels : List Cond := .code yL_labels cL_labels 11 (some .boolean) :: ((wsL_labels_r1 ++ (wsL_labels_r2 ++ (wsL_labels_r3 ++ (wsL_labels_r4 ++ (wsL_labels_r5 ++ (wsL_labels_r6 ++ (wsL_labels_r7 ++ (wsL_labels_r8 ++ (wsL_labels_r9 ++ wsL_labels_r10))))))))) ++ wsX50 ++ wsX00 ++ wsX30 ++ wsX20 ++ (vx_atS RX5 141 "java/lang/IllegalArgumentException" ["java/lang/RuntimeException", "java/lang/Exception"]).filter goodWord ++ (vx_atS RX5 302 "java/lang/IndexOutOfBoundsException" ["java/lang/RuntimeException", "java/lang/Exception"]).filter goodWord ++ (vx_atS RX5 118 "java/lang/IllegalStateException" ["java/lang/RuntimeException", "java/lang/Exception"]).filter goodWord)
def wsL_borrows_r1 : List Cond := [Cond.methodLink RL 146 yL_print, Cond.static yL_print, Cond.initialized RL, Cond.code yL_print cL_print 4 (some .long), Cond.constantLong RL 142 (19), Cond.constantLong RL 144 (31), Cond.methodLink RL 127 yL_count, Cond.static yL_count, Cond.codeWith yL_count cL_count 3 (some .int) [(0, 5, 6, 19)], Cond.classLink RL 19 "java/lang/IllegalArgumentException", Cond.constant RL 18 (-1000001), Cond.methodLink RL 72 yX5_count, Cond.instanceMethod yX5_count, Cond.selects RX5 yX5_count yX5_count, Cond.initialized RX5, Cond.code yX5_count cX5_count 2 (some .int), Cond.classLink RX5 137 "java/lang/IllegalArgumentException", Cond.initialized "java/lang/IllegalArgumentException", Cond.fieldLink RX5 12 "PotLabels" "bureau" "LPotLabels$Bureau;", Cond.fieldLink RX5 19 "PotLabels" "memory" "LPotLabels$Memory;", Cond.methodLink RX5 159 yX0_labelled, Cond.instanceMethod yX0_labelled, Cond.selects RX0 yX0_labelled yX0_labelled, Cond.initialized RX0]
def wsL_borrows_r2 : List Cond := [Cond.code yX0_labelled cX0_labelled 3 (some .int), Cond.fieldLink RX0 15 "PotLabels$Bureau" "labels" "[I", Cond.methodLink RX5 81 yX0_unlikeLabels, Cond.instanceMethod yX0_unlikeLabels, Cond.selects RX0 yX0_unlikeLabels yX0_unlikeLabels, Cond.code yX0_unlikeLabels cX0_unlikeLabels 3 (some .int), Cond.methodLink RX0 63 yJ6_bitCount_0f7a4, Cond.static yJ6_bitCount_0f7a4, Cond.initialized RJ6, Cond.code yJ6_bitCount_0f7a4 cJ6_bitCount_0f7a4 1 (some .int), Cond.constant RJ6 265 (1431655765), Cond.constant RJ6 266 (858993459), Cond.constant RJ6 267 (252645135), Cond.methodLink RX5 201 yX0_pairsToldByNobody, Cond.instanceMethod yX0_pairsToldByNobody, Cond.selects RX0 yX0_pairsToldByNobody yX0_pairsToldByNobody, Cond.code yX0_pairsToldByNobody cX0_pairsToldByNobody 4 (some .int), Cond.methodLink RX0 59 yX0_tellersOfPair, Cond.instanceMethod yX0_tellersOfPair, Cond.selects RX0 yX0_tellersOfPair yX0_tellersOfPair, Cond.code yX0_tellersOfPair cX0_tellersOfPair 5 (some .int), Cond.fieldLink RX0 24 "PotLabels$Bureau" "lenders" "[I", Cond.fieldLink RX0 9 "PotLabels$Bureau" "colours" "[I", Cond.methodLink RX0 49 yX0_tellsColours]
def wsL_borrows_r3 : List Cond := [Cond.instanceMethod yX0_tellsColours, Cond.selects RX0 yX0_tellsColours yX0_tellsColours, Cond.code yX0_tellsColours cX0_tellsColours 6 (some .boolean), Cond.fieldLink RX0 21 "PotLabels$Bureau" "sharpnesses" "[I", Cond.fieldLink RX0 18 "PotLabels$Bureau" "kinds" "[I", Cond.methodLink RX0 53 yX1_distance, Cond.static yX1_distance, Cond.initialized RX1, Cond.code yX1_distance cX1_distance 5 (some .int), Cond.methodLink RX1 16 Lib.Math.abs.name, Cond.static Lib.Math.abs.name, Cond.initialized "java/lang/Math", Cond.code Lib.Math.abs.name Lib.Math.abs.code 1 (some .int), Cond.methodLink RX1 13 yX1_seenAs, Cond.static yX1_seenAs, Cond.code yX1_seenAs cX1_seenAs 5 (some .int), Cond.methodLink RX5 204 yX0_paintersServed, Cond.instanceMethod yX0_paintersServed, Cond.selects RX0 yX0_paintersServed yX0_paintersServed, Cond.code yX0_paintersServed cX0_paintersServed 3 (some .int), Cond.methodLink RX0 73 yX0_wrongPairs, Cond.instanceMethod yX0_wrongPairs, Cond.selects RX0 yX0_wrongPairs yX0_wrongPairs, Cond.code yX0_wrongPairs cX0_wrongPairs 5 (some .int)]
def wsL_borrows_r4 : List Cond := [Cond.methodLink RX0 69 yX0_tells, Cond.instanceMethod yX0_tells, Cond.selects RX0 yX0_tells yX0_tells, Cond.code yX0_tells cX0_tells 4 (some .boolean), Cond.methodLink RL 125 yL_potOf, Cond.static yL_potOf, Cond.codeWith yL_potOf cL_potOf 4 (some .int) [(0, 6, 7, 16), (0, 6, 11, 19)], Cond.classLink RL 16 "java/lang/IndexOutOfBoundsException", Cond.constant RL 21 (-1000002), Cond.methodLink RL 57 yX5_potOf, Cond.instanceMethod yX5_potOf, Cond.selects RX5 yX5_potOf yX5_potOf, Cond.code yX5_potOf cX5_potOf 3 (some .int), Cond.methodLink RX5 37 yX5_needPot, Cond.static yX5_needPot, Cond.code yX5_needPot cX5_needPot 1 none, Cond.classLink RX5 298 "java/lang/IndexOutOfBoundsException", Cond.initialized "java/lang/IndexOutOfBoundsException", Cond.methodLink RX5 41 yX5_needWithin, Cond.static yX5_needWithin, Cond.code yX5_needWithin cX5_needWithin 3 none, Cond.methodLink RX5 53 yX1_partOf, Cond.static yX1_partOf, Cond.code yX1_partOf cX1_partOf 2 (some .int)]
def wsL_borrows_r5 : List Cond := [Cond.methodLink RX5 172 yX0_tellersOf, Cond.instanceMethod yX0_tellersOf, Cond.selects RX0 yX0_tellersOf yX0_tellersOf, Cond.code yX0_tellersOf cX0_tellersOf 4 (some .int), Cond.methodLink RL 116 yL_painterOf, Cond.static yL_painterOf, Cond.codeWith yL_painterOf cL_painterOf 4 (some .int) [(0, 6, 7, 16), (0, 6, 11, 19)], Cond.methodLink RL 63 yX5_painterOf, Cond.instanceMethod yX5_painterOf, Cond.selects RX5 yX5_painterOf yX5_painterOf, Cond.code yX5_painterOf cX5_painterOf 3 (some .int), Cond.methodLink RX5 63 yX5_needPainter, Cond.static yX5_needPainter, Cond.code yX5_needPainter cX5_needPainter 1 none, Cond.methodLink RX5 145 yX0_pairsTold, Cond.instanceMethod yX0_pairsTold, Cond.selects RX0 yX0_pairsTold yX0_pairsTold, Cond.code yX0_pairsTold cX0_pairsTold 6 (some .int), Cond.methodLink RX5 178 yX0_wrongPairs, Cond.methodLink RX5 181 yX0_chartsRead, Cond.instanceMethod yX0_chartsRead, Cond.selects RX0 yX0_chartsRead yX0_chartsRead, Cond.code yX0_chartsRead cX0_chartsRead 4 (some .int), Cond.fieldLink RX0 39 "PotLabels$Bureau" "charts" "I"]
def wsL_borrows_r6 : List Cond := [Cond.fieldLink RX0 27 "PotLabels$Bureau" "figures" "[I", Cond.fieldLink RX0 30 "PotLabels$Bureau" "grounds" "[I", Cond.methodLink RL 129 yL_chartOf, Cond.static yL_chartOf, Cond.codeWith yL_chartOf cL_chartOf 4 (some .int) [(0, 6, 7, 16), (0, 6, 11, 19)], Cond.methodLink RL 69 yX5_chartOf, Cond.instanceMethod yX5_chartOf, Cond.selects RX5 yX5_chartOf yX5_chartOf, Cond.code yX5_chartOf cX5_chartOf 3 (some .int), Cond.methodLink RX5 92 yX5_needChart, Cond.instanceMethod yX5_needChart, Cond.selects RX5 yX5_needChart yX5_needChart, Cond.code yX5_needChart cX5_needChart 2 none, Cond.methodLink RX5 95 yX0_readersOf, Cond.instanceMethod yX0_readersOf, Cond.selects RX0 yX0_readersOf yX0_readersOf, Cond.code yX0_readersOf cX0_readersOf 2 (some .int), Cond.methodLink RL 131 yL_ifBorrowed, Cond.static yL_ifBorrowed, Cond.codeWith yL_ifBorrowed cL_ifBorrowed 4 (some .int) [(0, 6, 7, 16)], Cond.methodLink RL 78 yX5_ifBorrowed, Cond.instanceMethod yX5_ifBorrowed, Cond.selects RX5 yX5_ifBorrowed yX5_ifBorrowed, Cond.code yX5_ifBorrowed cX5_ifBorrowed 3 (some .int)]
def wsL_borrows_r7 : List Cond := [Cond.methodLink RL 109 yL_borrow, Cond.static yL_borrow, Cond.codeWith yL_borrow cL_borrow 4 (some .int) [(0, 6, 7, 16)], Cond.methodLink RL 25 yX5_borrow, Cond.instanceMethod yX5_borrow, Cond.selects RX5 yX5_borrow yX5_borrow, Cond.code yX5_borrow cX5_borrow 4 (some .int), Cond.methodLink RX5 45 yX3_save, Cond.instanceMethod yX3_save, Cond.selects RX3 yX3_save yX3_save, Cond.initialized RX3, Cond.code yX3_save cX3_save 2 none, Cond.fieldLink RX3 25 "PotLabels$Memory" "held" "I", Cond.fieldLink RX3 21 "PotLabels$Memory" "saved" "[LPotLabels$Bureau;", Cond.methodLink RX3 29 yX3_dropOldest, Cond.instanceMethod yX3_dropOldest, Cond.selects RX3 yX3_dropOldest yX3_dropOldest, Cond.code yX3_dropOldest cX3_dropOldest 3 none, Cond.methodLink RX3 32 yX0_copyFrom, Cond.instanceMethod yX0_copyFrom, Cond.selects RX0 yX0_copyFrom yX0_copyFrom, Cond.code yX0_copyFrom cX0_copyFrom 2 none, Cond.methodLink RX0 33 arraycopyName, Cond.native arraycopyName]
def wsL_borrows_r8 : List Cond := [Cond.static arraycopyName, Cond.initialized "java/lang/System", Cond.fieldLink RX0 43 "PotLabels$Bureau" "corrections" "I", Cond.fieldLink RX0 46 "PotLabels$Bureau" "refusals" "I", Cond.methodLink RL 152 yL_undo, Cond.static yL_undo, Cond.codeWith yL_undo cL_undo 2 (some .int) [(0, 4, 5, 48)], Cond.classLink RL 48 "java/lang/IllegalStateException", Cond.methodLink RL 54 yX5_undo, Cond.instanceMethod yX5_undo, Cond.selects RX5 yX5_undo yX5_undo, Cond.code yX5_undo cX5_undo 1 (some .int), Cond.classLink RX5 114 "java/lang/IllegalStateException", Cond.initialized "java/lang/IllegalStateException", Cond.methodLink RX5 169 yX3_restore, Cond.instanceMethod yX3_restore, Cond.selects RX3 yX3_restore yX3_restore, Cond.code yX3_restore cX3_restore 2 none]
def wsL_borrows : List Cond := .code yL_borrows cL_borrows 8 (some .boolean) :: ((wsL_borrows_r1 ++ (wsL_borrows_r2 ++ (wsL_borrows_r3 ++ (wsL_borrows_r4 ++ (wsL_borrows_r5 ++ (wsL_borrows_r6 ++ (wsL_borrows_r7 ++ wsL_borrows_r8))))))) ++ wsX50 ++ wsX00 ++ wsX30 ++ (vx_atS RX5 141 "java/lang/IllegalArgumentException" ["java/lang/RuntimeException", "java/lang/Exception"]).filter goodWord ++ (vx_atS RX5 302 "java/lang/IndexOutOfBoundsException" ["java/lang/RuntimeException", "java/lang/Exception"]).filter goodWord ++ (vx_atS RX5 118 "java/lang/IllegalStateException" ["java/lang/RuntimeException", "java/lang/Exception"]).filter goodWord)
def wsL_corrects_r1 : List Cond := [Cond.methodLink RL 127 yL_count, Cond.static yL_count, Cond.initialized RL, Cond.codeWith yL_count cL_count 3 (some .int) [(0, 5, 6, 19)], Cond.classLink RL 19 "java/lang/IllegalArgumentException", Cond.constant RL 18 (-1000001), Cond.methodLink RL 72 yX5_count, Cond.instanceMethod yX5_count, Cond.selects RX5 yX5_count yX5_count, Cond.initialized RX5, Cond.code yX5_count cX5_count 2 (some .int), Cond.classLink RX5 137 "java/lang/IllegalArgumentException", Cond.initialized "java/lang/IllegalArgumentException", Cond.fieldLink RX5 12 "PotLabels" "bureau" "LPotLabels$Bureau;", Cond.fieldLink RX5 19 "PotLabels" "memory" "LPotLabels$Memory;", Cond.methodLink RX5 159 yX0_labelled, Cond.instanceMethod yX0_labelled, Cond.selects RX0 yX0_labelled yX0_labelled, Cond.initialized RX0, Cond.code yX0_labelled cX0_labelled 3 (some .int), Cond.fieldLink RX0 15 "PotLabels$Bureau" "labels" "[I", Cond.methodLink RX5 81 yX0_unlikeLabels, Cond.instanceMethod yX0_unlikeLabels, Cond.selects RX0 yX0_unlikeLabels yX0_unlikeLabels]
def wsL_corrects_r2 : List Cond := [Cond.code yX0_unlikeLabels cX0_unlikeLabels 3 (some .int), Cond.methodLink RX0 63 yJ6_bitCount_0f7a4, Cond.static yJ6_bitCount_0f7a4, Cond.initialized RJ6, Cond.code yJ6_bitCount_0f7a4 cJ6_bitCount_0f7a4 1 (some .int), Cond.constant RJ6 265 (1431655765), Cond.constant RJ6 266 (858993459), Cond.constant RJ6 267 (252645135), Cond.methodLink RX5 201 yX0_pairsToldByNobody, Cond.instanceMethod yX0_pairsToldByNobody, Cond.selects RX0 yX0_pairsToldByNobody yX0_pairsToldByNobody, Cond.code yX0_pairsToldByNobody cX0_pairsToldByNobody 4 (some .int), Cond.methodLink RX0 59 yX0_tellersOfPair, Cond.instanceMethod yX0_tellersOfPair, Cond.selects RX0 yX0_tellersOfPair yX0_tellersOfPair, Cond.code yX0_tellersOfPair cX0_tellersOfPair 5 (some .int), Cond.fieldLink RX0 24 "PotLabels$Bureau" "lenders" "[I", Cond.fieldLink RX0 9 "PotLabels$Bureau" "colours" "[I", Cond.methodLink RX0 49 yX0_tellsColours, Cond.instanceMethod yX0_tellsColours, Cond.selects RX0 yX0_tellsColours yX0_tellsColours, Cond.code yX0_tellsColours cX0_tellsColours 6 (some .boolean), Cond.fieldLink RX0 21 "PotLabels$Bureau" "sharpnesses" "[I", Cond.fieldLink RX0 18 "PotLabels$Bureau" "kinds" "[I"]
def wsL_corrects_r3 : List Cond := [Cond.methodLink RX0 53 yX1_distance, Cond.static yX1_distance, Cond.initialized RX1, Cond.code yX1_distance cX1_distance 5 (some .int), Cond.methodLink RX1 16 Lib.Math.abs.name, Cond.static Lib.Math.abs.name, Cond.initialized "java/lang/Math", Cond.code Lib.Math.abs.name Lib.Math.abs.code 1 (some .int), Cond.methodLink RX1 13 yX1_seenAs, Cond.static yX1_seenAs, Cond.code yX1_seenAs cX1_seenAs 5 (some .int), Cond.methodLink RX5 204 yX0_paintersServed, Cond.instanceMethod yX0_paintersServed, Cond.selects RX0 yX0_paintersServed yX0_paintersServed, Cond.code yX0_paintersServed cX0_paintersServed 3 (some .int), Cond.methodLink RX0 73 yX0_wrongPairs, Cond.instanceMethod yX0_wrongPairs, Cond.selects RX0 yX0_wrongPairs yX0_wrongPairs, Cond.code yX0_wrongPairs cX0_wrongPairs 5 (some .int), Cond.methodLink RX0 69 yX0_tells, Cond.instanceMethod yX0_tells, Cond.selects RX0 yX0_tells yX0_tells, Cond.code yX0_tells cX0_tells 4 (some .boolean), Cond.methodLink RL 98 yL_hang]
def wsL_corrects_r4 : List Cond := [Cond.static yL_hang, Cond.codeWith yL_hang cL_hang 4 (some .int) [(0, 6, 7, 16), (0, 6, 11, 19)], Cond.classLink RL 16 "java/lang/IndexOutOfBoundsException", Cond.constant RL 21 (-1000002), Cond.methodLink RL 36 yX5_hang, Cond.instanceMethod yX5_hang, Cond.selects RX5 yX5_hang yX5_hang, Cond.code yX5_hang cX5_hang 3 (some .int), Cond.methodLink RX5 37 yX5_needPot, Cond.static yX5_needPot, Cond.code yX5_needPot cX5_needPot 1 none, Cond.classLink RX5 298 "java/lang/IndexOutOfBoundsException", Cond.initialized "java/lang/IndexOutOfBoundsException", Cond.methodLink RX5 85 yX5_needUnlike, Cond.static yX5_needUnlike, Cond.code yX5_needUnlike cX5_needUnlike 2 none, Cond.methodLink RX5 45 yX3_save, Cond.instanceMethod yX3_save, Cond.selects RX3 yX3_save yX3_save, Cond.initialized RX3, Cond.code yX3_save cX3_save 2 none, Cond.fieldLink RX3 25 "PotLabels$Memory" "held" "I", Cond.fieldLink RX3 21 "PotLabels$Memory" "saved" "[LPotLabels$Bureau;", Cond.methodLink RX3 29 yX3_dropOldest]
def wsL_corrects_r5 : List Cond := [Cond.instanceMethod yX3_dropOldest, Cond.selects RX3 yX3_dropOldest yX3_dropOldest, Cond.code yX3_dropOldest cX3_dropOldest 3 none, Cond.methodLink RX3 32 yX0_copyFrom, Cond.instanceMethod yX0_copyFrom, Cond.selects RX0 yX0_copyFrom yX0_copyFrom, Cond.code yX0_copyFrom cX0_copyFrom 2 none, Cond.methodLink RX0 33 arraycopyName, Cond.native arraycopyName, Cond.static arraycopyName, Cond.initialized "java/lang/System", Cond.fieldLink RX0 27 "PotLabels$Bureau" "figures" "[I", Cond.fieldLink RX0 30 "PotLabels$Bureau" "grounds" "[I", Cond.fieldLink RX0 39 "PotLabels$Bureau" "charts" "I", Cond.fieldLink RX0 43 "PotLabels$Bureau" "corrections" "I", Cond.fieldLink RX0 46 "PotLabels$Bureau" "refusals" "I", Cond.methodLink RX5 89 yX0_addChart, Cond.instanceMethod yX0_addChart, Cond.selects RX0 yX0_addChart yX0_addChart, Cond.code yX0_addChart cX0_addChart 3 (some .int), Cond.methodLink RL 152 yL_undo, Cond.static yL_undo, Cond.codeWith yL_undo cL_undo 2 (some .int) [(0, 4, 5, 48)], Cond.classLink RL 48 "java/lang/IllegalStateException"]
def wsL_corrects_r6 : List Cond := [Cond.methodLink RL 54 yX5_undo, Cond.instanceMethod yX5_undo, Cond.selects RX5 yX5_undo yX5_undo, Cond.code yX5_undo cX5_undo 1 (some .int), Cond.classLink RX5 114 "java/lang/IllegalStateException", Cond.initialized "java/lang/IllegalStateException", Cond.methodLink RX5 169 yX3_restore, Cond.instanceMethod yX3_restore, Cond.selects RX3 yX3_restore yX3_restore, Cond.code yX3_restore cX3_restore 2 none, Cond.methodLink RL 146 yL_print, Cond.static yL_print, Cond.code yL_print cL_print 4 (some .long), Cond.constantLong RL 142 (19), Cond.constantLong RL 144 (31), Cond.methodLink RL 125 yL_potOf, Cond.static yL_potOf, Cond.codeWith yL_potOf cL_potOf 4 (some .int) [(0, 6, 7, 16), (0, 6, 11, 19)], Cond.methodLink RL 57 yX5_potOf, Cond.instanceMethod yX5_potOf, Cond.selects RX5 yX5_potOf yX5_potOf, Cond.code yX5_potOf cX5_potOf 3 (some .int), Cond.methodLink RX5 41 yX5_needWithin, Cond.static yX5_needWithin]
def wsL_corrects_r7 : List Cond := [Cond.code yX5_needWithin cX5_needWithin 3 none, Cond.methodLink RX5 53 yX1_partOf, Cond.static yX1_partOf, Cond.code yX1_partOf cX1_partOf 2 (some .int), Cond.methodLink RX5 172 yX0_tellersOf, Cond.instanceMethod yX0_tellersOf, Cond.selects RX0 yX0_tellersOf yX0_tellersOf, Cond.code yX0_tellersOf cX0_tellersOf 4 (some .int), Cond.methodLink RL 116 yL_painterOf, Cond.static yL_painterOf, Cond.codeWith yL_painterOf cL_painterOf 4 (some .int) [(0, 6, 7, 16), (0, 6, 11, 19)], Cond.methodLink RL 63 yX5_painterOf, Cond.instanceMethod yX5_painterOf, Cond.selects RX5 yX5_painterOf yX5_painterOf, Cond.code yX5_painterOf cX5_painterOf 3 (some .int), Cond.methodLink RX5 63 yX5_needPainter, Cond.static yX5_needPainter, Cond.code yX5_needPainter cX5_needPainter 1 none, Cond.methodLink RX5 145 yX0_pairsTold, Cond.instanceMethod yX0_pairsTold, Cond.selects RX0 yX0_pairsTold yX0_pairsTold, Cond.code yX0_pairsTold cX0_pairsTold 6 (some .int), Cond.methodLink RX5 178 yX0_wrongPairs, Cond.methodLink RX5 181 yX0_chartsRead]
def wsL_corrects_r8 : List Cond := [Cond.instanceMethod yX0_chartsRead, Cond.selects RX0 yX0_chartsRead yX0_chartsRead, Cond.code yX0_chartsRead cX0_chartsRead 4 (some .int), Cond.methodLink RL 129 yL_chartOf, Cond.static yL_chartOf, Cond.codeWith yL_chartOf cL_chartOf 4 (some .int) [(0, 6, 7, 16), (0, 6, 11, 19)], Cond.methodLink RL 69 yX5_chartOf, Cond.instanceMethod yX5_chartOf, Cond.selects RX5 yX5_chartOf yX5_chartOf, Cond.code yX5_chartOf cX5_chartOf 3 (some .int), Cond.methodLink RX5 92 yX5_needChart, Cond.instanceMethod yX5_needChart, Cond.selects RX5 yX5_needChart yX5_needChart, Cond.code yX5_needChart cX5_needChart 2 none, Cond.methodLink RX5 95 yX0_readersOf, Cond.instanceMethod yX0_readersOf, Cond.selects RX0 yX0_readersOf yX0_readersOf, Cond.code yX0_readersOf cX0_readersOf 2 (some .int), Cond.methodLink RL 154 yL_leastChange, Cond.static yL_leastChange, Cond.codeWith yL_leastChange cL_leastChange 5 (some .int) [(0, 7, 8, 16), (0, 7, 13, 19)], Cond.methodLink RL 81 yX5_leastChange, Cond.instanceMethod yX5_leastChange, Cond.selects RX5 yX5_leastChange yX5_leastChange]
def wsL_corrects_r9 : List Cond := [Cond.code yX5_leastChange cX5_leastChange 5 (some .int), Cond.methodLink RX5 225 yX0_nearestColour, Cond.instanceMethod yX0_nearestColour, Cond.selects RX0 yX0_nearestColour yX0_nearestColour, Cond.code yX0_nearestColour cX0_nearestColour 8 (some .int), Cond.methodLink RX0 82 yX1_change, Cond.static yX1_change, Cond.code yX1_change cX1_change 2 (some .int), Cond.methodLink RX1 22 yX1_distance, Cond.methodLink RX5 228 yX1_change, Cond.methodLink RL 103 yL_correct, Cond.static yL_correct, Cond.codeWith yL_correct cL_correct 4 (some .int) [(0, 6, 7, 16)], Cond.methodLink RL 42 yX5_correct, Cond.instanceMethod yX5_correct, Cond.selects RX5 yX5_correct yX5_correct, Cond.code yX5_correct cX5_correct 3 (some .int), Cond.methodLink RX5 107 yX0_makeReadable, Cond.instanceMethod yX0_makeReadable, Cond.selects RX0 yX0_makeReadable yX0_makeReadable, Cond.code yX0_makeReadable cX0_makeReadable 6 (some .int), Cond.methodLink RX0 79 yX0_nearestColour, Cond.methodLink RL 122 yL_far, Cond.static yL_far]
def wsL_corrects_r10 : List Cond := [Cond.code yL_far cL_far 5 (some .int), Cond.methodLink RL 118 yL_apart, Cond.static yL_apart, Cond.codeWith yL_apart cL_apart 5 (some .int) [(0, 7, 8, 16)], Cond.methodLink RL 66 yX5_apart, Cond.instanceMethod yX5_apart, Cond.selects RX5 yX5_apart yX5_apart, Cond.code yX5_apart cX5_apart 4 (some .int), Cond.methodLink RX5 186 yX0_tells, Cond.methodLink RL 114 yL_mix, Cond.static yL_mix, Cond.codeWith yL_mix cL_mix 5 (some .int) [(0, 7, 8, 16), (0, 7, 13, 19)], Cond.methodLink RL 10 yX5_mix, Cond.instanceMethod yX5_mix, Cond.selects RX5 yX5_mix yX5_mix, Cond.code yX5_mix cX5_mix 5 (some .int), Cond.methodLink RX5 59 yX1_withPart, Cond.static yX1_withPart, Cond.code yX1_withPart cX1_withPart 4 (some .int), Cond.methodLink RX1 7 yX1_partOf]
def wsL_corrects : List Cond := .code yL_corrects cL_corrects 16 (some .boolean) :: ((wsL_corrects_r1 ++ (wsL_corrects_r2 ++ (wsL_corrects_r3 ++ (wsL_corrects_r4 ++ (wsL_corrects_r5 ++ (wsL_corrects_r6 ++ (wsL_corrects_r7 ++ (wsL_corrects_r8 ++ (wsL_corrects_r9 ++ wsL_corrects_r10))))))))) ++ wsX50 ++ wsX00 ++ wsX30 ++ (vx_atS RX5 141 "java/lang/IllegalArgumentException" ["java/lang/RuntimeException", "java/lang/Exception"]).filter goodWord ++ (vx_atS RX5 302 "java/lang/IndexOutOfBoundsException" ["java/lang/RuntimeException", "java/lang/Exception"]).filter goodWord ++ (vx_atS RX5 118 "java/lang/IllegalStateException" ["java/lang/RuntimeException", "java/lang/Exception"]).filter goodWord)
def wsL_law0_r1 : List Cond := [Cond.classLink RL 11 RX5, Cond.instantiable RX5 4, Cond.initialized RX5, Cond.methodLink RL 156 yX5_init, Cond.instanceMethod yX5_init, Cond.code yX5_init cX5_init 1 none, Cond.methodLink RX5 3 objectInit, Cond.instanceMethod objectInit, Cond.code objectInit ⟨#[0xb1]⟩ 1 none, Cond.classLink RX5 9 RX0, Cond.instantiable RX0 10, Cond.initialized RX0, Cond.fieldLink RX5 12 "PotLabels" "bureau" "LPotLabels$Bureau;", Cond.classLink RX5 16 RX3, Cond.instantiable RX3 4, Cond.initialized RX3, Cond.fieldLink RX5 19 "PotLabels" "memory" "LPotLabels$Memory;", Cond.classLink RX5 23 RX4, Cond.instantiable RX4 2, Cond.initialized RX4, Cond.fieldLink RX5 26 "PotLabels" "text" "LPotLabels$Text;", Cond.classLink RX5 30 RX2, Cond.instantiable RX2 4, Cond.initialized RX2]
def wsL_law0_r2 : List Cond := [Cond.fieldLink RX5 33 "PotLabels" "labelling" "LPotLabels$Labelling;", Cond.methodLink RX5 11 yX0_init, Cond.instanceMethod yX0_init, Cond.code yX0_init cX0_init 2 none, Cond.methodLink RX0 3 objectInit, Cond.arrayClass .int, Cond.fieldLink RX0 9 "PotLabels$Bureau" "colours" "[I", Cond.fieldLink RX0 15 "PotLabels$Bureau" "labels" "[I", Cond.fieldLink RX0 18 "PotLabels$Bureau" "kinds" "[I", Cond.fieldLink RX0 21 "PotLabels$Bureau" "sharpnesses" "[I", Cond.fieldLink RX0 24 "PotLabels$Bureau" "lenders" "[I", Cond.fieldLink RX0 27 "PotLabels$Bureau" "figures" "[I", Cond.fieldLink RX0 30 "PotLabels$Bureau" "grounds" "[I", Cond.methodLink RX5 18 yX3_init, Cond.instanceMethod yX3_init, Cond.code yX3_init cX3_init 2 none, Cond.methodLink RX3 3 objectInit, Cond.classLink RX3 9 RX0, Cond.fieldLink RX3 11 "PotLabels$Memory" "slots" "[LPotLabels$Bureau;", Cond.arrayClass .boolean, Cond.fieldLink RX3 17 "PotLabels$Memory" "filled" "[Z", Cond.fieldLink RX3 21 "PotLabels$Memory" "saved" "[LPotLabels$Bureau;", Cond.methodLink RX3 24 yX0_init, Cond.instanceMethod yX4_init]
def wsL_law0_r3 : List Cond := [Cond.code yX4_init cX4_init 1 none, Cond.methodLink RX4 3 objectInit, Cond.fieldLink RX4 9 "PotLabels$Text" "codes" "[I", Cond.instanceMethod yX2_init, Cond.code yX2_init cX2_init 1 none, Cond.methodLink RX2 3 objectInit, Cond.fieldLink RX2 9 "PotLabels$Labelling" "rivals" "[I", Cond.fieldLink RX2 15 "PotLabels$Labelling" "peaceful" "[Z", Cond.fieldLink RX2 19 "PotLabels$Labelling" "needs" "[I", Cond.fieldLink RX2 22 "PotLabels$Labelling" "bearers" "[I", Cond.methodLink RL 157 yL_hangs, Cond.static yL_hangs, Cond.initialized RL, Cond.code yL_hangs cL_hangs 14 (some .boolean), Cond.constantDouble RL 140 (4637581716284768256), Cond.methodLink RL 116 yL_painterOf, Cond.static yL_painterOf, Cond.codeWith yL_painterOf cL_painterOf 4 (some .int) [(0, 6, 7, 16), (0, 6, 11, 19)], Cond.classLink RL 16 "java/lang/IndexOutOfBoundsException", Cond.classLink RL 19 "java/lang/IllegalArgumentException", Cond.constant RL 18 (-1000001), Cond.constant RL 21 (-1000002), Cond.methodLink RL 63 yX5_painterOf, Cond.instanceMethod yX5_painterOf]
def wsL_law0_r4 : List Cond := [Cond.selects RX5 yX5_painterOf yX5_painterOf, Cond.code yX5_painterOf cX5_painterOf 3 (some .int), Cond.classLink RX5 137 "java/lang/IllegalArgumentException", Cond.initialized "java/lang/IllegalArgumentException", Cond.methodLink RX5 63 yX5_needPainter, Cond.static yX5_needPainter, Cond.code yX5_needPainter cX5_needPainter 1 none, Cond.classLink RX5 298 "java/lang/IndexOutOfBoundsException", Cond.initialized "java/lang/IndexOutOfBoundsException", Cond.methodLink RX5 145 yX0_pairsTold, Cond.instanceMethod yX0_pairsTold, Cond.selects RX0 yX0_pairsTold yX0_pairsTold, Cond.code yX0_pairsTold cX0_pairsTold 6 (some .int), Cond.methodLink RX0 49 yX0_tellsColours, Cond.instanceMethod yX0_tellsColours, Cond.selects RX0 yX0_tellsColours yX0_tellsColours, Cond.code yX0_tellsColours cX0_tellsColours 6 (some .boolean), Cond.methodLink RX0 53 yX1_distance, Cond.static yX1_distance, Cond.initialized RX1, Cond.code yX1_distance cX1_distance 5 (some .int), Cond.methodLink RX1 16 Lib.Math.abs.name, Cond.static Lib.Math.abs.name, Cond.initialized "java/lang/Math"]
def wsL_law0_r5 : List Cond := [Cond.code Lib.Math.abs.name Lib.Math.abs.code 1 (some .int), Cond.methodLink RX1 13 yX1_seenAs, Cond.static yX1_seenAs, Cond.code yX1_seenAs cX1_seenAs 5 (some .int), Cond.methodLink RX5 178 yX0_wrongPairs, Cond.instanceMethod yX0_wrongPairs, Cond.selects RX0 yX0_wrongPairs yX0_wrongPairs, Cond.code yX0_wrongPairs cX0_wrongPairs 5 (some .int), Cond.methodLink RX0 69 yX0_tells, Cond.instanceMethod yX0_tells, Cond.selects RX0 yX0_tells yX0_tells, Cond.code yX0_tells cX0_tells 4 (some .boolean), Cond.methodLink RX5 181 yX0_chartsRead, Cond.instanceMethod yX0_chartsRead, Cond.selects RX0 yX0_chartsRead yX0_chartsRead, Cond.code yX0_chartsRead cX0_chartsRead 4 (some .int), Cond.fieldLink RX0 39 "PotLabels$Bureau" "charts" "I", Cond.methodLink RL 118 yL_apart, Cond.static yL_apart, Cond.codeWith yL_apart cL_apart 5 (some .int) [(0, 7, 8, 16)], Cond.methodLink RL 66 yX5_apart, Cond.instanceMethod yX5_apart, Cond.selects RX5 yX5_apart yX5_apart, Cond.code yX5_apart cX5_apart 4 (some .int)]
def wsL_law0_r6 : List Cond := [Cond.methodLink RX5 37 yX5_needPot, Cond.static yX5_needPot, Cond.code yX5_needPot cX5_needPot 1 none, Cond.methodLink RX5 186 yX0_tells, Cond.methodLink RL 120 yL_seen, Cond.static yL_seen, Cond.codeWith yL_seen cL_seen 4 (some .int) [(0, 6, 7, 16)], Cond.methodLink RL 60 yX5_seen, Cond.instanceMethod yX5_seen, Cond.selects RX5 yX5_seen yX5_seen, Cond.code yX5_seen cX5_seen 3 (some .int), Cond.methodLink RX5 175 yX1_seenAs, Cond.methodLink RL 122 yL_far, Cond.static yL_far, Cond.code yL_far cL_far 5 (some .int), Cond.methodLink RL 125 yL_potOf, Cond.static yL_potOf, Cond.codeWith yL_potOf cL_potOf 4 (some .int) [(0, 6, 7, 16), (0, 6, 11, 19)], Cond.methodLink RL 57 yX5_potOf, Cond.instanceMethod yX5_potOf, Cond.selects RX5 yX5_potOf yX5_potOf, Cond.code yX5_potOf cX5_potOf 3 (some .int), Cond.methodLink RX5 41 yX5_needWithin, Cond.static yX5_needWithin]
def wsL_law0_r7 : List Cond := [Cond.code yX5_needWithin cX5_needWithin 3 none, Cond.methodLink RX5 53 yX1_partOf, Cond.static yX1_partOf, Cond.code yX1_partOf cX1_partOf 2 (some .int), Cond.methodLink RX5 172 yX0_tellersOf, Cond.instanceMethod yX0_tellersOf, Cond.selects RX0 yX0_tellersOf yX0_tellersOf, Cond.code yX0_tellersOf cX0_tellersOf 4 (some .int), Cond.methodLink RX0 59 yX0_tellersOfPair, Cond.instanceMethod yX0_tellersOfPair, Cond.selects RX0 yX0_tellersOfPair yX0_tellersOfPair, Cond.code yX0_tellersOfPair cX0_tellersOfPair 5 (some .int), Cond.methodLink RL 127 yL_count, Cond.static yL_count, Cond.codeWith yL_count cL_count 3 (some .int) [(0, 5, 6, 19)], Cond.methodLink RL 72 yX5_count, Cond.instanceMethod yX5_count, Cond.selects RX5 yX5_count yX5_count, Cond.code yX5_count cX5_count 2 (some .int), Cond.methodLink RX5 159 yX0_labelled, Cond.instanceMethod yX0_labelled, Cond.selects RX0 yX0_labelled yX0_labelled, Cond.code yX0_labelled cX0_labelled 3 (some .int), Cond.methodLink RX5 81 yX0_unlikeLabels]
def wsL_law0_r8 : List Cond := [Cond.instanceMethod yX0_unlikeLabels, Cond.selects RX0 yX0_unlikeLabels yX0_unlikeLabels, Cond.code yX0_unlikeLabels cX0_unlikeLabels 3 (some .int), Cond.methodLink RX0 63 yJ6_bitCount_0f7a4, Cond.static yJ6_bitCount_0f7a4, Cond.initialized RJ6, Cond.code yJ6_bitCount_0f7a4 cJ6_bitCount_0f7a4 1 (some .int), Cond.constant RJ6 265 (1431655765), Cond.constant RJ6 266 (858993459), Cond.constant RJ6 267 (252645135), Cond.methodLink RX5 201 yX0_pairsToldByNobody, Cond.instanceMethod yX0_pairsToldByNobody, Cond.selects RX0 yX0_pairsToldByNobody yX0_pairsToldByNobody, Cond.code yX0_pairsToldByNobody cX0_pairsToldByNobody 4 (some .int), Cond.methodLink RX5 204 yX0_paintersServed, Cond.instanceMethod yX0_paintersServed, Cond.selects RX0 yX0_paintersServed yX0_paintersServed, Cond.code yX0_paintersServed cX0_paintersServed 3 (some .int), Cond.methodLink RX0 73 yX0_wrongPairs, Cond.methodLink RL 129 yL_chartOf, Cond.static yL_chartOf, Cond.codeWith yL_chartOf cL_chartOf 4 (some .int) [(0, 6, 7, 16), (0, 6, 11, 19)], Cond.methodLink RL 69 yX5_chartOf, Cond.instanceMethod yX5_chartOf]
def wsL_law0_r9 : List Cond := [Cond.selects RX5 yX5_chartOf yX5_chartOf, Cond.code yX5_chartOf cX5_chartOf 3 (some .int), Cond.methodLink RX5 92 yX5_needChart, Cond.instanceMethod yX5_needChart, Cond.selects RX5 yX5_needChart yX5_needChart, Cond.code yX5_needChart cX5_needChart 2 none, Cond.methodLink RX5 95 yX0_readersOf, Cond.instanceMethod yX0_readersOf, Cond.selects RX0 yX0_readersOf yX0_readersOf, Cond.code yX0_readersOf cX0_readersOf 2 (some .int), Cond.methodLink RL 131 yL_ifBorrowed, Cond.static yL_ifBorrowed, Cond.codeWith yL_ifBorrowed cL_ifBorrowed 4 (some .int) [(0, 6, 7, 16)], Cond.methodLink RL 78 yX5_ifBorrowed, Cond.instanceMethod yX5_ifBorrowed, Cond.selects RX5 yX5_ifBorrowed yX5_ifBorrowed, Cond.code yX5_ifBorrowed cX5_ifBorrowed 3 (some .int), Cond.methodLink RL 133 yX5_bestPainter, Cond.instanceMethod yX5_bestPainter, Cond.selects RX5 yX5_bestPainter yX5_bestPainter, Cond.code yX5_bestPainter cX5_bestPainter 5 (some .int), Cond.methodLink RL 136 yX5_apartShare, Cond.instanceMethod yX5_apartShare, Cond.selects RX5 yX5_apartShare yX5_apartShare]
def wsL_law0_r10 : List Cond := [Cond.code yX5_apartShare cX5_apartShare 3 (some .double), Cond.constantDouble RX5 231 (4637581716284768256), Cond.methodLink RL 161 yL_labels, Cond.static yL_labels, Cond.code yL_labels cL_labels 11 (some .boolean), Cond.methodLink RL 146 yL_print, Cond.static yL_print, Cond.code yL_print cL_print 4 (some .long), Cond.constantLong RL 142 (19), Cond.constantLong RL 144 (31), Cond.methodLink RL 150 yL_fewest, Cond.static yL_fewest, Cond.codeWith yL_fewest cL_fewest 4 (some .int) [(0, 6, 7, 16), (0, 6, 11, 19)], Cond.methodLink RL 75 yX5_fewest, Cond.instanceMethod yX5_fewest, Cond.selects RX5 yX5_fewest yX5_fewest, Cond.code yX5_fewest cX5_fewest 3 (some .int), Cond.methodLink RX5 215 yX2_look, Cond.instanceMethod yX2_look, Cond.selects RX2 yX2_look yX2_look, Cond.code yX2_look cX2_look 5 none, Cond.methodLink RX2 25 yX0_tells, Cond.methodLink RX5 219 yX2_fewestBySets, Cond.instanceMethod yX2_fewestBySets]
def wsL_law0_r11 : List Cond := [Cond.selects RX2 yX2_fewestBySets yX2_fewestBySets, Cond.code yX2_fewestBySets cX2_fewestBySets 4 (some .int), Cond.methodLink RX2 31 yX2_needOf, Cond.instanceMethod yX2_needOf, Cond.selects RX2 yX2_needOf yX2_needOf, Cond.code yX2_needOf cX2_needOf 5 (some .int), Cond.methodLink RX2 35 Lib.Math.min.name, Cond.static Lib.Math.min.name, Cond.code Lib.Math.min.name Lib.Math.min.code 2 (some .int), Cond.methodLink RX5 222 yX2_fewestByTrying, Cond.instanceMethod yX2_fewestByTrying, Cond.selects RX2 yX2_fewestByTrying yX2_fewestByTrying, Cond.code yX2_fewestByTrying cX2_fewestByTrying 1 (some .int), Cond.methodLink RX2 40 yX2_fewestFrom, Cond.static yX2_fewestFrom, Cond.code yX2_fewestFrom cX2_fewestFrom 8 (some .int), Cond.methodLink RL 105 yL_labelAll, Cond.static yL_labelAll, Cond.codeWith yL_labelAll cL_labelAll 3 (some .int) [(0, 5, 6, 16)], Cond.methodLink RL 32 yX5_labelAll, Cond.instanceMethod yX5_labelAll, Cond.selects RX5 yX5_labelAll yX5_labelAll, Cond.code yX5_labelAll cX5_labelAll 2 (some .int), Cond.methodLink RX5 45 yX3_save]
def wsL_law0_r12 : List Cond := [Cond.instanceMethod yX3_save, Cond.selects RX3 yX3_save yX3_save, Cond.code yX3_save cX3_save 2 none, Cond.fieldLink RX3 25 "PotLabels$Memory" "held" "I", Cond.methodLink RX3 29 yX3_dropOldest, Cond.instanceMethod yX3_dropOldest, Cond.selects RX3 yX3_dropOldest yX3_dropOldest, Cond.code yX3_dropOldest cX3_dropOldest 3 none, Cond.methodLink RX3 32 yX0_copyFrom, Cond.instanceMethod yX0_copyFrom, Cond.selects RX0 yX0_copyFrom yX0_copyFrom, Cond.code yX0_copyFrom cX0_copyFrom 2 none, Cond.methodLink RX0 33 arraycopyName, Cond.native arraycopyName, Cond.static arraycopyName, Cond.initialized "java/lang/System", Cond.fieldLink RX0 43 "PotLabels$Bureau" "corrections" "I", Cond.fieldLink RX0 46 "PotLabels$Bureau" "refusals" "I", Cond.methodLink RX5 78 yX0_labelInOrder, Cond.instanceMethod yX0_labelInOrder, Cond.selects RX0 yX0_labelInOrder yX0_labelInOrder, Cond.code yX0_labelInOrder cX0_labelInOrder 5 none, Cond.methodLink RX0 76 yX0_leastOutside, Cond.static yX0_leastOutside]
def wsL_law0_r13 : List Cond := [Cond.code yX0_leastOutside cX0_leastOutside 2 (some .int), Cond.methodLink RL 152 yL_undo, Cond.static yL_undo, Cond.codeWith yL_undo cL_undo 2 (some .int) [(0, 4, 5, 48)], Cond.classLink RL 48 "java/lang/IllegalStateException", Cond.methodLink RL 54 yX5_undo, Cond.instanceMethod yX5_undo, Cond.selects RX5 yX5_undo yX5_undo, Cond.code yX5_undo cX5_undo 1 (some .int), Cond.classLink RX5 114 "java/lang/IllegalStateException", Cond.initialized "java/lang/IllegalStateException", Cond.methodLink RX5 169 yX3_restore, Cond.instanceMethod yX3_restore, Cond.selects RX3 yX3_restore yX3_restore, Cond.code yX3_restore cX3_restore 2 none, Cond.methodLink RL 165 yL_at, Cond.static yL_at, Cond.code yL_at cL_at 2 (some .int), Cond.constant RL 7 (1063091095), Cond.constant RL 8 (726494849), Cond.methodLink RL 84 yL_low, Cond.static yL_low, Cond.code yL_low cL_low 2 (some .int), Cond.constant RL 9 (2147483647)]
def wsL_law0_r14 : List Cond := [Cond.methodLink RL 169 yL_act, Cond.static yL_act, Cond.code yL_act cL_act 7 (some .int), Cond.methodLink RL 89 yX5_clearBuffer, Cond.instanceMethod yX5_clearBuffer, Cond.selects RX5 yX5_clearBuffer yX5_clearBuffer, Cond.code yX5_clearBuffer cX5_clearBuffer 2 (some .int), Cond.methodLink RX5 128 yX4_clear, Cond.instanceMethod yX4_clear, Cond.selects RX4 yX4_clear yX4_clear, Cond.code yX4_clear cX4_clear 1 none, Cond.fieldLink RX4 15 "PotLabels$Text" "length" "I", Cond.methodLink RL 92 yL_append, Cond.static yL_append, Cond.codeWith yL_append cL_append 3 (some .int) [(0, 5, 6, 19), (0, 5, 10, 48)], Cond.methodLink RL 45 yX5_append, Cond.instanceMethod yX5_append, Cond.selects RX5 yX5_append yX5_append, Cond.code yX5_append cX5_append 2 (some .int), Cond.methodLink RX5 110 yX4_isFull, Cond.instanceMethod yX4_isFull, Cond.selects RX4 yX4_isFull yX4_isFull, Cond.code yX4_isFull cX4_isFull 1 (some .boolean), Cond.methodLink RX5 121 yX4_add]
def wsL_law0_r15 : List Cond := [Cond.instanceMethod yX4_add, Cond.selects RX4 yX4_add yX4_add, Cond.code yX4_add cX4_add 2 none, Cond.methodLink RL 95 yL_load, Cond.static yL_load, Cond.codeWith yL_load cL_load 2 (some .int) [(0, 4, 5, 19)], Cond.methodLink RL 50 yX5_load, Cond.instanceMethod yX5_load, Cond.selects RX5 yX5_load yX5_load, Cond.code yX5_load cX5_load 1 (some .int), Cond.methodLink RX5 134 yX4_tellsPots, Cond.instanceMethod yX4_tellsPots, Cond.selects RX4 yX4_tellsPots yX4_tellsPots, Cond.code yX4_tellsPots cX4_tellsPots 1 (some .boolean), Cond.methodLink RX4 23 yX4_firstWrong, Cond.instanceMethod yX4_firstWrong, Cond.selects RX4 yX4_firstWrong yX4_firstWrong, Cond.code yX4_firstWrong cX4_firstWrong 2 (some .int), Cond.methodLink RX4 19 yX4_fits, Cond.static yX4_fits, Cond.code yX4_fits cX4_fits 2 (some .boolean), Cond.methodLink RX5 142 yX4_giveColours, Cond.instanceMethod yX4_giveColours, Cond.selects RX4 yX4_giveColours yX4_giveColours]
def wsL_law0_r16 : List Cond := [Cond.code yX4_giveColours cX4_giveColours 4 none, Cond.methodLink RL 98 yL_hang, Cond.static yL_hang, Cond.codeWith yL_hang cL_hang 4 (some .int) [(0, 6, 7, 16), (0, 6, 11, 19)], Cond.methodLink RL 36 yX5_hang, Cond.instanceMethod yX5_hang, Cond.selects RX5 yX5_hang yX5_hang, Cond.code yX5_hang cX5_hang 3 (some .int), Cond.methodLink RX5 85 yX5_needUnlike, Cond.static yX5_needUnlike, Cond.code yX5_needUnlike cX5_needUnlike 2 none, Cond.methodLink RX5 89 yX0_addChart, Cond.instanceMethod yX0_addChart, Cond.selects RX0 yX0_addChart yX0_addChart, Cond.code yX0_addChart cX0_addChart 3 (some .int), Cond.methodLink RL 101 yL_takeDown, Cond.static yL_takeDown, Cond.codeWith yL_takeDown cL_takeDown 3 (some .int) [(0, 5, 6, 16)], Cond.methodLink RL 39 yX5_takeDown, Cond.instanceMethod yX5_takeDown, Cond.selects RX5 yX5_takeDown yX5_takeDown, Cond.code yX5_takeDown cX5_takeDown 3 (some .int), Cond.methodLink RX5 99 yJ6_bitCount_0f7a4, Cond.methodLink RX5 104 yX0_removeChart]
def wsL_law0_r17 : List Cond := [Cond.instanceMethod yX0_removeChart, Cond.selects RX0 yX0_removeChart yX0_removeChart, Cond.code yX0_removeChart cX0_removeChart 3 none, Cond.methodLink RL 103 yL_correct, Cond.static yL_correct, Cond.codeWith yL_correct cL_correct 4 (some .int) [(0, 6, 7, 16)], Cond.methodLink RL 42 yX5_correct, Cond.instanceMethod yX5_correct, Cond.selects RX5 yX5_correct yX5_correct, Cond.code yX5_correct cX5_correct 3 (some .int), Cond.methodLink RX5 107 yX0_makeReadable, Cond.instanceMethod yX0_makeReadable, Cond.selects RX0 yX0_makeReadable yX0_makeReadable, Cond.code yX0_makeReadable cX0_makeReadable 6 (some .int), Cond.methodLink RX0 79 yX0_nearestColour, Cond.instanceMethod yX0_nearestColour, Cond.selects RX0 yX0_nearestColour yX0_nearestColour, Cond.code yX0_nearestColour cX0_nearestColour 8 (some .int), Cond.methodLink RX0 82 yX1_change, Cond.static yX1_change, Cond.code yX1_change cX1_change 2 (some .int), Cond.methodLink RX1 22 yX1_distance, Cond.methodLink RL 107 yL_label, Cond.static yL_label]
def wsL_law0_r18 : List Cond := [Cond.codeWith yL_label cL_label 4 (some .int) [(0, 6, 7, 16), (0, 6, 11, 19)], Cond.methodLink RL 29 yX5_label, Cond.instanceMethod yX5_label, Cond.selects RX5 yX5_label yX5_label, Cond.code yX5_label cX5_label 4 (some .int), Cond.methodLink RL 109 yL_borrow, Cond.static yL_borrow, Cond.codeWith yL_borrow cL_borrow 4 (some .int) [(0, 6, 7, 16)], Cond.methodLink RL 25 yX5_borrow, Cond.instanceMethod yX5_borrow, Cond.selects RX5 yX5_borrow yX5_borrow, Cond.code yX5_borrow cX5_borrow 4 (some .int), Cond.methodLink RL 111 yL_painter, Cond.static yL_painter, Cond.codeWith yL_painter cL_painter 5 (some .int) [(0, 7, 8, 16), (0, 7, 13, 19)], Cond.methodLink RL 22 yX5_painter, Cond.instanceMethod yX5_painter, Cond.selects RX5 yX5_painter yX5_painter, Cond.code yX5_painter cX5_painter 6 (some .int), Cond.methodLink RL 114 yL_mix, Cond.static yL_mix, Cond.codeWith yL_mix cL_mix 5 (some .int) [(0, 7, 8, 16), (0, 7, 13, 19)], Cond.methodLink RL 10 yX5_mix, Cond.instanceMethod yX5_mix]
def wsL_law0_r19 : List Cond := [Cond.selects RX5 yX5_mix yX5_mix, Cond.code yX5_mix cX5_mix 5 (some .int), Cond.methodLink RX5 59 yX1_withPart, Cond.static yX1_withPart, Cond.code yX1_withPart cX1_withPart 4 (some .int), Cond.methodLink RX1 7 yX1_partOf, Cond.methodLink RL 172 yL_borrows, Cond.static yL_borrows, Cond.code yL_borrows cL_borrows 8 (some .boolean), Cond.methodLink RL 176 yL_corrects, Cond.static yL_corrects, Cond.code yL_corrects cL_corrects 16 (some .boolean), Cond.methodLink RL 154 yL_leastChange, Cond.static yL_leastChange, Cond.codeWith yL_leastChange cL_leastChange 5 (some .int) [(0, 7, 8, 16), (0, 7, 13, 19)], Cond.methodLink RL 81 yX5_leastChange, Cond.instanceMethod yX5_leastChange, Cond.selects RX5 yX5_leastChange yX5_leastChange, Cond.code yX5_leastChange cX5_leastChange 5 (some .int), Cond.methodLink RX5 225 yX0_nearestColour, Cond.methodLink RX5 228 yX1_change]
def wsL_law0 : List Cond := (wsL_law0_r1 ++ (wsL_law0_r2 ++ (wsL_law0_r3 ++ (wsL_law0_r4 ++ (wsL_law0_r5 ++ (wsL_law0_r6 ++ (wsL_law0_r7 ++ (wsL_law0_r8 ++ (wsL_law0_r9 ++ (wsL_law0_r10 ++ (wsL_law0_r11 ++ (wsL_law0_r12 ++ (wsL_law0_r13 ++ (wsL_law0_r14 ++ (wsL_law0_r15 ++ (wsL_law0_r16 ++ (wsL_law0_r17 ++ (wsL_law0_r18 ++ wsL_law0_r19)))))))))))))))))) ++ wsX50 ++ wsX00 ++ wsX30 ++ wsX40 ++ wsX20 ++ ([] : List Cond)
def wsL_law : List Cond := wsL_law0 ++ (vx_atS RX5 141 "java/lang/IllegalArgumentException" ["java/lang/RuntimeException", "java/lang/Exception"]).filter goodWord ++ (vx_atS RX5 302 "java/lang/IndexOutOfBoundsException" ["java/lang/RuntimeException", "java/lang/Exception"]).filter goodWord ++ (vx_atS RX5 118 "java/lang/IllegalStateException" ["java/lang/RuntimeException", "java/lang/Exception"]).filter goodWord
end
section
set_option maxRecDepth 20000 in
theorem lwr_1 : GoodIn lw_tbl wsL_law0_r1 := goodIn_p _ [26, 29] (by decide +kernel) (by decide +kernel)
set_option maxRecDepth 20000 in
theorem lwr_2 : GoodIn lw_tbl wsL_law0_r2 := goodIn_p _ [34, 83] (by decide +kernel) (by decide +kernel)
set_option maxRecDepth 20000 in
theorem lwr_3_0 : GoodIn lw_tbl [Cond.code yX4_init cX4_init 1 none, Cond.methodLink RX4 3 objectInit, Cond.fieldLink RX4 9 "PotLabels$Text" "codes" "[I", Cond.instanceMethod yX2_init, Cond.code yX2_init cX2_init 1 none, Cond.methodLink RX2 3 objectInit, Cond.fieldLink RX2 9 "PotLabels$Labelling" "rivals" "[I", Cond.fieldLink RX2 15 "PotLabels$Labelling" "peaceful" "[Z", Cond.fieldLink RX2 19 "PotLabels$Labelling" "needs" "[I", Cond.fieldLink RX2 22 "PotLabels$Labelling" "bearers" "[I", Cond.methodLink RL 157 yL_hangs, Cond.static yL_hangs, Cond.initialized RL] := goodIn_p _ [107, 121] (by decide +kernel) (by decide +kernel)
set_option maxRecDepth 100000 in
theorem lwr_3_1 : GoodIn lw_tbl [Cond.code yL_hangs cL_hangs 14 (some .boolean)] := goodIn_p _ [514] rfl rfl
set_option maxRecDepth 20000 in
theorem lwr_3_2 : GoodIn lw_tbl [Cond.constantDouble RL 140 (4637581716284768256), Cond.methodLink RL 116 yL_painterOf, Cond.static yL_painterOf, Cond.codeWith yL_painterOf cL_painterOf 4 (some .int) [(0, 6, 7, 16), (0, 6, 11, 19)], Cond.classLink RL 16 "java/lang/IndexOutOfBoundsException", Cond.classLink RL 19 "java/lang/IllegalArgumentException", Cond.constant RL 18 (-1000001), Cond.constant RL 21 (-1000002), Cond.methodLink RL 63 yX5_painterOf, Cond.instanceMethod yX5_painterOf] := goodIn_p _ [] (by decide +kernel) (by decide +kernel)
set_option maxRecDepth 20000 in
theorem lwr_3 : GoodIn lw_tbl wsL_law0_r3 := (goodIn_app lwr_3_0 (goodIn_app lwr_3_1 lwr_3_2))
set_option maxRecDepth 20000 in
theorem lwr_4 : GoodIn lw_tbl wsL_law0_r4 := goodIn_p _ [521, 449, 383, 279, 282] (by decide +kernel) (by decide +kernel)
set_option maxRecDepth 20000 in
theorem lwr_5 : GoodIn lw_tbl wsL_law0_r5 := goodIn_p _ [288, 285, 296, 300, 526, 534] (by decide +kernel) (by decide +kernel)
set_option maxRecDepth 20000 in
theorem lwr_6 : GoodIn lw_tbl wsL_law0_r6 := goodIn_p _ [394, 542, 546, 553] (by decide +kernel) (by decide +kernel)
set_option maxRecDepth 20000 in
theorem lwr_7 : GoodIn lw_tbl wsL_law0_r7 := goodIn_p _ [337, 507, 557, 275, 253, 257] (by decide +kernel) (by decide +kernel)
set_option maxRecDepth 20000 in
theorem lwr_8 : GoodIn lw_tbl wsL_law0_r8 := goodIn_p _ [261, 264, 271, 292] (by decide +kernel) (by decide +kernel)
set_option maxRecDepth 20000 in
theorem lwr_9 : GoodIn lw_tbl wsL_law0_r9 := goodIn_p _ [564, 429, 434, 572, 576] (by decide +kernel) (by decide +kernel)
set_option maxRecDepth 20000 in
theorem lwr_10_0 : GoodIn lw_tbl [Cond.code yX5_apartShare cX5_apartShare 3 (some .double), Cond.constantDouble RX5 231 (4637581716284768256), Cond.methodLink RL 161 yL_labels, Cond.static yL_labels] := goodIn_p _ [580] (by decide +kernel) (by decide +kernel)
set_option maxRecDepth 100000 in
theorem lwr_10_1 : GoodIn lw_tbl [Cond.code yL_labels cL_labels 11 (some .boolean)] := goodIn_p _ [590] rfl rfl
set_option maxRecDepth 20000 in
theorem lwr_10_2 : GoodIn lw_tbl [Cond.methodLink RL 146 yL_print, Cond.static yL_print] := goodIn_p _ [] (by decide +kernel) (by decide +kernel)
set_option maxRecDepth 100000 in
theorem lwr_10_3 : GoodIn lw_tbl [Cond.code yL_print cL_print 4 (some .long)] := goodIn_p _ [585] rfl rfl
set_option maxRecDepth 20000 in
theorem lwr_10_4 : GoodIn lw_tbl [Cond.constantLong RL 142 (19), Cond.constantLong RL 144 (31), Cond.methodLink RL 150 yL_fewest, Cond.static yL_fewest, Cond.codeWith yL_fewest cL_fewest 4 (some .int) [(0, 6, 7, 16), (0, 6, 11, 19)], Cond.methodLink RL 75 yX5_fewest, Cond.instanceMethod yX5_fewest, Cond.selects RX5 yX5_fewest yX5_fewest, Cond.code yX5_fewest cX5_fewest 3 (some .int), Cond.methodLink RX5 215 yX2_look, Cond.instanceMethod yX2_look, Cond.selects RX2 yX2_look yX2_look, Cond.code yX2_look cX2_look 5 none, Cond.methodLink RX2 25 yX0_tells, Cond.methodLink RX5 219 yX2_fewestBySets, Cond.instanceMethod yX2_fewestBySets] := goodIn_p _ [597, 601] (by decide +kernel) (by decide +kernel)
set_option maxRecDepth 20000 in
theorem lwr_10 : GoodIn lw_tbl wsL_law0_r10 := (goodIn_app lwr_10_0 (goodIn_app lwr_10_1 (goodIn_app lwr_10_2 (goodIn_app lwr_10_3 lwr_10_4))))
set_option maxRecDepth 20000 in
theorem lwr_11 : GoodIn lw_tbl wsL_law0_r11 := goodIn_p _ [606, 610, 613, 617, 620, 469] (by decide +kernel) (by decide +kernel)
set_option maxRecDepth 20000 in
theorem lwr_12 : GoodIn lw_tbl wsL_law0_r12 := goodIn_p _ [371, 375, 241, 473] (by decide +kernel) (by decide +kernel)
set_option maxRecDepth 20000 in
theorem lwr_13 : GoodIn lw_tbl wsL_law0_r13 := goodIn_p _ [476, 165, 237, 151, 156] (by decide +kernel) (by decide +kernel)
set_option maxRecDepth 20000 in
theorem lwr_14_0 : GoodIn lw_tbl [Cond.methodLink RL 169 yL_act, Cond.static yL_act] := goodIn_p _ [] (by decide +kernel) (by decide +kernel)
set_option maxRecDepth 100000 in
theorem lwr_14_1 : GoodIn lw_tbl [Cond.code yL_act cL_act 7 (some .int)] := goodIn_p _ [319] rfl rfl
set_option maxRecDepth 20000 in
theorem lwr_14_2 : GoodIn lw_tbl [Cond.methodLink RL 89 yX5_clearBuffer, Cond.instanceMethod yX5_clearBuffer, Cond.selects RX5 yX5_clearBuffer yX5_clearBuffer, Cond.code yX5_clearBuffer cX5_clearBuffer 2 (some .int), Cond.methodLink RX5 128 yX4_clear, Cond.instanceMethod yX4_clear, Cond.selects RX4 yX4_clear yX4_clear, Cond.code yX4_clear cX4_clear 1 none, Cond.fieldLink RX4 15 "PotLabels$Text" "length" "I", Cond.methodLink RL 92 yL_append, Cond.static yL_append, Cond.codeWith yL_append cL_append 3 (some .int) [(0, 5, 6, 19), (0, 5, 10, 48)], Cond.methodLink RL 45 yX5_append, Cond.instanceMethod yX5_append, Cond.selects RX5 yX5_append yX5_append, Cond.code yX5_append cX5_append 2 (some .int), Cond.methodLink RX5 110 yX4_isFull, Cond.instanceMethod yX4_isFull, Cond.selects RX4 yX4_isFull yX4_isFull, Cond.code yX4_isFull cX4_isFull 1 (some .boolean), Cond.methodLink RX5 121 yX4_add] := goodIn_p _ [323, 327, 334, 342] (by decide +kernel) (by decide +kernel)
set_option maxRecDepth 20000 in
theorem lwr_14 : GoodIn lw_tbl wsL_law0_r14 := (goodIn_app lwr_14_0 (goodIn_app lwr_14_1 lwr_14_2))
set_option maxRecDepth 20000 in
theorem lwr_15 : GoodIn lw_tbl wsL_law0_r15 := goodIn_p _ [347, 355, 359, 363, 366] (by decide +kernel) (by decide +kernel)
set_option maxRecDepth 20000 in
theorem lwr_16 : GoodIn lw_tbl wsL_law0_r16 := goodIn_p _ [379, 391, 413, 418, 425] (by decide +kernel) (by decide +kernel)
set_option maxRecDepth 20000 in
theorem lwr_17 : GoodIn lw_tbl wsL_law0_r17 := goodIn_p _ [439, 446, 454, 458, 461] (by decide +kernel) (by decide +kernel)
set_option maxRecDepth 20000 in
theorem lwr_18 : GoodIn lw_tbl wsL_law0_r18 := goodIn_p _ [483, 490, 497] (by decide +kernel) (by decide +kernel)
set_option maxRecDepth 20000 in
theorem lwr_19_0 : GoodIn lw_tbl [Cond.selects RX5 yX5_mix yX5_mix, Cond.code yX5_mix cX5_mix 5 (some .int), Cond.methodLink RX5 59 yX1_withPart, Cond.static yX1_withPart, Cond.code yX1_withPart cX1_withPart 4 (some .int), Cond.methodLink RX1 7 yX1_partOf, Cond.methodLink RL 172 yL_borrows, Cond.static yL_borrows] := goodIn_p _ [504, 510] (by decide +kernel) (by decide +kernel)
set_option maxRecDepth 100000 in
theorem lwr_19_1 : GoodIn lw_tbl [Cond.code yL_borrows cL_borrows 8 (some .boolean)] := goodIn_p _ [623] rfl rfl
set_option maxRecDepth 20000 in
theorem lwr_19_2 : GoodIn lw_tbl [Cond.methodLink RL 176 yL_corrects, Cond.static yL_corrects] := goodIn_p _ [] (by decide +kernel) (by decide +kernel)
set_option maxRecDepth 100000 in
theorem lwr_19_3 : GoodIn lw_tbl [Cond.code yL_corrects cL_corrects 16 (some .boolean)] := goodIn_p _ [626] rfl rfl
set_option maxRecDepth 20000 in
theorem lwr_19_4 : GoodIn lw_tbl [Cond.methodLink RL 154 yL_leastChange, Cond.static yL_leastChange, Cond.codeWith yL_leastChange cL_leastChange 5 (some .int) [(0, 7, 8, 16), (0, 7, 13, 19)], Cond.methodLink RL 81 yX5_leastChange, Cond.instanceMethod yX5_leastChange, Cond.selects RX5 yX5_leastChange yX5_leastChange, Cond.code yX5_leastChange cX5_leastChange 5 (some .int), Cond.methodLink RX5 225 yX0_nearestColour, Cond.methodLink RX5 228 yX1_change] := goodIn_p _ [633] (by decide +kernel) (by decide +kernel)
set_option maxRecDepth 20000 in
theorem lwr_19 : GoodIn lw_tbl wsL_law0_r19 := (goodIn_app lwr_19_0 (goodIn_app lwr_19_1 (goodIn_app lwr_19_2 (goodIn_app lwr_19_3 lwr_19_4))))
set_option maxRecDepth 20000 in
theorem lwr_wsX50 : GoodIn lw_tbl wsX50 := goodIn_p _ [] (by decide +kernel) (by decide +kernel)
set_option maxRecDepth 20000 in
theorem lwr_wsX00 : GoodIn lw_tbl wsX00 := goodIn_p _ [] (by decide +kernel) (by decide +kernel)
set_option maxRecDepth 20000 in
theorem lwr_wsX30 : GoodIn lw_tbl wsX30 := goodIn_p _ [] (by decide +kernel) (by decide +kernel)
set_option maxRecDepth 20000 in
theorem lwr_wsX40 : GoodIn lw_tbl wsX40 := goodIn_p _ [] (by decide +kernel) (by decide +kernel)
set_option maxRecDepth 20000 in
theorem lwr_wsX20 : GoodIn lw_tbl wsX20 := goodIn_p _ [] (by decide +kernel) (by decide +kernel)
theorem wsL_law_in0 : ∀ w ∈ wsL_law0, w ∈ lw_tbl := fun w h => ((goodIn_app (goodIn_app (goodIn_app (goodIn_app (goodIn_app (goodIn_app (goodIn_app lwr_1 (goodIn_app lwr_2 (goodIn_app lwr_3 (goodIn_app lwr_4 (goodIn_app lwr_5 (goodIn_app lwr_6 (goodIn_app lwr_7 (goodIn_app lwr_8 (goodIn_app lwr_9 (goodIn_app lwr_10 (goodIn_app lwr_11 (goodIn_app lwr_12 (goodIn_app lwr_13 (goodIn_app lwr_14 (goodIn_app lwr_15 (goodIn_app lwr_16 (goodIn_app lwr_17 (goodIn_app lwr_18 lwr_19)))))))))))))))))) lwr_wsX50) lwr_wsX00) lwr_wsX30) lwr_wsX40) lwr_wsX20) (fun _ h => absurd h List.not_mem_nil) : GoodIn lw_tbl wsL_law0) w h).1
theorem wsL_law_x0 : ∀ w ∈ (vx_atS RX5 141 "java/lang/IllegalArgumentException" ["java/lang/RuntimeException", "java/lang/Exception"]).filter goodWord, w ∈ lw_tbl := by decide +kernel
theorem wsL_law_x1 : ∀ w ∈ (vx_atS RX5 302 "java/lang/IndexOutOfBoundsException" ["java/lang/RuntimeException", "java/lang/Exception"]).filter goodWord, w ∈ lw_tbl := by decide +kernel
theorem wsL_law_x2 : ∀ w ∈ (vx_atS RX5 118 "java/lang/IllegalStateException" ["java/lang/RuntimeException", "java/lang/Exception"]).filter goodWord, w ∈ lw_tbl := by decide +kernel
theorem wsL_law_in : ∀ w ∈ wsL_law, w ∈ lw_tbl := fun w h => (List.mem_append.mp h).elim (fun h => (List.mem_append.mp h).elim (fun h => (List.mem_append.mp h).elim (fun h => wsL_law_in0 w h) (fun h => wsL_law_x0 w h)) (fun h => wsL_law_x1 w h)) (fun h => wsL_law_x2 w h)
theorem inlX0 : ∀ w ∈ wsX00, w ∈ wsL_law := fun _ h => List.mem_append_left _ (List.mem_append_left _ (List.mem_append_left _ (List.mem_append_left _ (List.mem_append_left _ (List.mem_append_left _ (List.mem_append_left _ (List.mem_append_right _ h)))))))
theorem inX0 : ∀ w ∈ wsX00, w ∈ lw_tbl := fun w h => wsL_law_in w (inlX0 w h)
theorem inX1 : ∀ w ∈ wsX10, w ∈ lw_tbl := by decide +kernel
theorem inlX2 : ∀ w ∈ wsX20, w ∈ wsL_law := fun _ h => List.mem_append_left _ (List.mem_append_left _ (List.mem_append_left _ (List.mem_append_left _ (List.mem_append_right _ h))))
theorem inX2 : ∀ w ∈ wsX20, w ∈ lw_tbl := fun w h => wsL_law_in w (inlX2 w h)
theorem inlX3 : ∀ w ∈ wsX30, w ∈ wsL_law := fun _ h => List.mem_append_left _ (List.mem_append_left _ (List.mem_append_left _ (List.mem_append_left _ (List.mem_append_left _ (List.mem_append_left _ (List.mem_append_right _ h))))))
theorem inX3 : ∀ w ∈ wsX30, w ∈ lw_tbl := fun w h => wsL_law_in w (inlX3 w h)
theorem inlX4 : ∀ w ∈ wsX40, w ∈ wsL_law := fun _ h => List.mem_append_left _ (List.mem_append_left _ (List.mem_append_left _ (List.mem_append_left _ (List.mem_append_left _ (List.mem_append_right _ h)))))
theorem inX4 : ∀ w ∈ wsX40, w ∈ lw_tbl := fun w h => wsL_law_in w (inlX4 w h)
theorem inlX5 : ∀ w ∈ wsX50, w ∈ wsL_law := fun _ h => List.mem_append_left _ (List.mem_append_left _ (List.mem_append_left _ (List.mem_append_left _ (List.mem_append_left _ (List.mem_append_left _ (List.mem_append_left _ (List.mem_append_left _ (List.mem_append_right _ h))))))))
theorem inX5 : ∀ w ∈ wsX50, w ∈ lw_tbl := fun w h => wsL_law_in w (inlX5 w h)
theorem inX6 : ∀ w ∈ wsX60, w ∈ lw_tbl := by decide +kernel
theorem inJ6 : ∀ w ∈ wsJ60, w ∈ lw_tbl := by decide +kernel
theorem inJ9 : ∀ w ∈ wsJ90, w ∈ lw_tbl := by decide +kernel
theorem inJ0 : ∀ w ∈ wsJ00, w ∈ lw_tbl := by decide +kernel
theorem inJ10 : ∀ w ∈ wsJ100, w ∈ lw_tbl := by decide +kernel
end
section
theorem dX0_init_0 : decode cX0_init 0 = .ok (.aload_n 0, 1) := by decide +kernel
theorem dX0_init_1 : decode cX0_init 1 = .ok (.invokespecial 3, 3) := by decide +kernel
theorem dX0_init_4 : decode cX0_init 4 = .ok (.aload_n 0, 1) := by decide +kernel
theorem dX0_init_5 : decode cX0_init 5 = .ok (.bipush 8, 2) := by decide +kernel
theorem dX0_init_7 : decode cX0_init 7 = .ok (.newarray .int, 2) := by decide +kernel
theorem dX0_init_9 : decode cX0_init 9 = .ok (.putfield 9, 3) := by decide +kernel
theorem dX0_init_12 : decode cX0_init 12 = .ok (.aload_n 0, 1) := by decide +kernel
theorem dX0_init_13 : decode cX0_init 13 = .ok (.bipush 8, 2) := by decide +kernel
theorem dX0_init_15 : decode cX0_init 15 = .ok (.newarray .int, 2) := by decide +kernel
theorem dX0_init_17 : decode cX0_init 17 = .ok (.putfield 15, 3) := by decide +kernel
theorem dX0_init_20 : decode cX0_init 20 = .ok (.aload_n 0, 1) := by decide +kernel
theorem dX0_init_21 : decode cX0_init 21 = .ok (.iconst 4, 1) := by decide +kernel
theorem dX0_init_22 : decode cX0_init 22 = .ok (.newarray .int, 2) := by decide +kernel
theorem dX0_init_24 : decode cX0_init 24 = .ok (.putfield 18, 3) := by decide +kernel
theorem dX0_init_27 : decode cX0_init 27 = .ok (.aload_n 0, 1) := by decide +kernel
theorem dX0_init_28 : decode cX0_init 28 = .ok (.iconst 4, 1) := by decide +kernel
theorem dX0_init_29 : decode cX0_init 29 = .ok (.newarray .int, 2) := by decide +kernel
theorem dX0_init_31 : decode cX0_init 31 = .ok (.putfield 21, 3) := by decide +kernel
theorem dX0_init_34 : decode cX0_init 34 = .ok (.aload_n 0, 1) := by decide +kernel
theorem dX0_init_35 : decode cX0_init 35 = .ok (.iconst 4, 1) := by decide +kernel
theorem dX0_init_36 : decode cX0_init 36 = .ok (.newarray .int, 2) := by decide +kernel
theorem dX0_init_38 : decode cX0_init 38 = .ok (.putfield 24, 3) := by decide +kernel
theorem dX0_init_41 : decode cX0_init 41 = .ok (.aload_n 0, 1) := by decide +kernel
theorem dX0_init_42 : decode cX0_init 42 = .ok (.bipush 6, 2) := by decide +kernel
theorem dX0_init_44 : decode cX0_init 44 = .ok (.newarray .int, 2) := by decide +kernel
theorem dX0_init_46 : decode cX0_init 46 = .ok (.putfield 27, 3) := by decide +kernel
theorem dX0_init_49 : decode cX0_init 49 = .ok (.aload_n 0, 1) := by decide +kernel
theorem dX0_init_50 : decode cX0_init 50 = .ok (.bipush 6, 2) := by decide +kernel
theorem dX0_init_52 : decode cX0_init 52 = .ok (.newarray .int, 2) := by decide +kernel
theorem dX0_init_54 : decode cX0_init 54 = .ok (.putfield 30, 3) := by decide +kernel
theorem dX0_init_57 : decode cX0_init 57 = .ok (.iconst 0, 1) := by decide +kernel
theorem dX0_init_58 : decode cX0_init 58 = .ok (.istore_n 1, 1) := by decide +kernel
theorem dX0_init_59 : decode cX0_init 59 = .ok (.iload_n 1, 1) := by decide +kernel
theorem dX0_init_60 : decode cX0_init 60 = .ok (.bipush 8, 2) := by decide +kernel
theorem dX0_init_62 : decode cX0_init 62 = .ok (.if_icmp .ge 16, 3) := by decide +kernel
theorem dX0_init_65 : decode cX0_init 65 = .ok (.aload_n 0, 1) := by decide +kernel
theorem dX0_init_66 : decode cX0_init 66 = .ok (.getfield 15, 3) := by decide +kernel
theorem dX0_init_69 : decode cX0_init 69 = .ok (.iload_n 1, 1) := by decide +kernel
theorem dX0_init_70 : decode cX0_init 70 = .ok (.iconst (-1), 1) := by decide +kernel
theorem dX0_init_71 : decode cX0_init 71 = .ok (.iastore, 1) := by decide +kernel
theorem dX0_init_72 : decode cX0_init 72 = .ok (.iinc 1 1, 3) := by decide +kernel
theorem dX0_init_75 : decode cX0_init 75 = .ok (.goto (-16), 3) := by decide +kernel
theorem dX0_init_78 : decode cX0_init 78 = .ok (.iconst 0, 1) := by decide +kernel
theorem dX0_init_79 : decode cX0_init 79 = .ok (.istore_n 1, 1) := by decide +kernel
theorem dX0_init_80 : decode cX0_init 80 = .ok (.iload_n 1, 1) := by decide +kernel
theorem dX0_init_81 : decode cX0_init 81 = .ok (.iconst 4, 1) := by decide +kernel
theorem dX0_init_82 : decode cX0_init 82 = .ok (.if_icmp .ge 30, 3) := by decide +kernel
theorem dX0_init_85 : decode cX0_init 85 = .ok (.aload_n 0, 1) := by decide +kernel
theorem dX0_init_86 : decode cX0_init 86 = .ok (.getfield 18, 3) := by decide +kernel
theorem dX0_init_89 : decode cX0_init 89 = .ok (.iload_n 1, 1) := by decide +kernel
theorem dX0_init_90 : decode cX0_init 90 = .ok (.iload_n 1, 1) := by decide +kernel
theorem dX0_init_91 : decode cX0_init 91 = .ok (.iastore, 1) := by decide +kernel
theorem dX0_init_92 : decode cX0_init 92 = .ok (.aload_n 0, 1) := by decide +kernel
theorem dX0_init_93 : decode cX0_init 93 = .ok (.getfield 21, 3) := by decide +kernel
theorem dX0_init_96 : decode cX0_init 96 = .ok (.iload_n 1, 1) := by decide +kernel
theorem dX0_init_97 : decode cX0_init 97 = .ok (.iconst 3, 1) := by decide +kernel
theorem dX0_init_98 : decode cX0_init 98 = .ok (.iastore, 1) := by decide +kernel
theorem dX0_init_99 : decode cX0_init 99 = .ok (.aload_n 0, 1) := by decide +kernel
theorem dX0_init_100 : decode cX0_init 100 = .ok (.getfield 24, 3) := by decide +kernel
theorem dX0_init_103 : decode cX0_init 103 = .ok (.iload_n 1, 1) := by decide +kernel
theorem dX0_init_104 : decode cX0_init 104 = .ok (.iconst (-1), 1) := by decide +kernel
theorem dX0_init_105 : decode cX0_init 105 = .ok (.iastore, 1) := by decide +kernel
theorem dX0_init_106 : decode cX0_init 106 = .ok (.iinc 1 1, 3) := by decide +kernel
theorem dX0_init_109 : decode cX0_init 109 = .ok (.goto (-29), 3) := by decide +kernel
theorem dX0_init_112 : decode cX0_init 112 = .ok (.return_, 1) := by decide +kernel
theorem dX0_copyFrom_0 : decode cX0_copyFrom 0 = .ok (.aload_n 1, 1) := by decide +kernel
theorem dX0_copyFrom_1 : decode cX0_copyFrom 1 = .ok (.getfield 9, 3) := by decide +kernel
theorem dX0_copyFrom_4 : decode cX0_copyFrom 4 = .ok (.iconst 0, 1) := by decide +kernel
theorem dX0_copyFrom_5 : decode cX0_copyFrom 5 = .ok (.aload_n 0, 1) := by decide +kernel
theorem dX0_copyFrom_6 : decode cX0_copyFrom 6 = .ok (.getfield 9, 3) := by decide +kernel
theorem dX0_copyFrom_9 : decode cX0_copyFrom 9 = .ok (.iconst 0, 1) := by decide +kernel
theorem dX0_copyFrom_10 : decode cX0_copyFrom 10 = .ok (.bipush 8, 2) := by decide +kernel
theorem dX0_copyFrom_12 : decode cX0_copyFrom 12 = .ok (.invokestatic 33, 3) := by decide +kernel
theorem dX0_copyFrom_15 : decode cX0_copyFrom 15 = .ok (.aload_n 1, 1) := by decide +kernel
theorem dX0_copyFrom_16 : decode cX0_copyFrom 16 = .ok (.getfield 15, 3) := by decide +kernel
theorem dX0_copyFrom_19 : decode cX0_copyFrom 19 = .ok (.iconst 0, 1) := by decide +kernel
theorem dX0_copyFrom_20 : decode cX0_copyFrom 20 = .ok (.aload_n 0, 1) := by decide +kernel
theorem dX0_copyFrom_21 : decode cX0_copyFrom 21 = .ok (.getfield 15, 3) := by decide +kernel
theorem dX0_copyFrom_24 : decode cX0_copyFrom 24 = .ok (.iconst 0, 1) := by decide +kernel
theorem dX0_copyFrom_25 : decode cX0_copyFrom 25 = .ok (.bipush 8, 2) := by decide +kernel
theorem dX0_copyFrom_27 : decode cX0_copyFrom 27 = .ok (.invokestatic 33, 3) := by decide +kernel
theorem dX0_copyFrom_30 : decode cX0_copyFrom 30 = .ok (.aload_n 1, 1) := by decide +kernel
theorem dX0_copyFrom_31 : decode cX0_copyFrom 31 = .ok (.getfield 18, 3) := by decide +kernel
theorem dX0_copyFrom_34 : decode cX0_copyFrom 34 = .ok (.iconst 0, 1) := by decide +kernel
theorem dX0_copyFrom_35 : decode cX0_copyFrom 35 = .ok (.aload_n 0, 1) := by decide +kernel
theorem dX0_copyFrom_36 : decode cX0_copyFrom 36 = .ok (.getfield 18, 3) := by decide +kernel
theorem dX0_copyFrom_39 : decode cX0_copyFrom 39 = .ok (.iconst 0, 1) := by decide +kernel
theorem dX0_copyFrom_40 : decode cX0_copyFrom 40 = .ok (.iconst 4, 1) := by decide +kernel
theorem dX0_copyFrom_41 : decode cX0_copyFrom 41 = .ok (.invokestatic 33, 3) := by decide +kernel
theorem dX0_copyFrom_44 : decode cX0_copyFrom 44 = .ok (.aload_n 1, 1) := by decide +kernel
theorem dX0_copyFrom_45 : decode cX0_copyFrom 45 = .ok (.getfield 21, 3) := by decide +kernel
theorem dX0_copyFrom_48 : decode cX0_copyFrom 48 = .ok (.iconst 0, 1) := by decide +kernel
theorem dX0_copyFrom_49 : decode cX0_copyFrom 49 = .ok (.aload_n 0, 1) := by decide +kernel
theorem dX0_copyFrom_50 : decode cX0_copyFrom 50 = .ok (.getfield 21, 3) := by decide +kernel
theorem dX0_copyFrom_53 : decode cX0_copyFrom 53 = .ok (.iconst 0, 1) := by decide +kernel
theorem dX0_copyFrom_54 : decode cX0_copyFrom 54 = .ok (.iconst 4, 1) := by decide +kernel
theorem dX0_copyFrom_55 : decode cX0_copyFrom 55 = .ok (.invokestatic 33, 3) := by decide +kernel
theorem dX0_copyFrom_58 : decode cX0_copyFrom 58 = .ok (.aload_n 1, 1) := by decide +kernel
theorem dX0_copyFrom_59 : decode cX0_copyFrom 59 = .ok (.getfield 24, 3) := by decide +kernel
theorem dX0_copyFrom_62 : decode cX0_copyFrom 62 = .ok (.iconst 0, 1) := by decide +kernel
theorem dX0_copyFrom_63 : decode cX0_copyFrom 63 = .ok (.aload_n 0, 1) := by decide +kernel
theorem dX0_copyFrom_64 : decode cX0_copyFrom 64 = .ok (.getfield 24, 3) := by decide +kernel
theorem dX0_copyFrom_67 : decode cX0_copyFrom 67 = .ok (.iconst 0, 1) := by decide +kernel
theorem dX0_copyFrom_68 : decode cX0_copyFrom 68 = .ok (.iconst 4, 1) := by decide +kernel
theorem dX0_copyFrom_69 : decode cX0_copyFrom 69 = .ok (.invokestatic 33, 3) := by decide +kernel
theorem dX0_copyFrom_72 : decode cX0_copyFrom 72 = .ok (.aload_n 1, 1) := by decide +kernel
theorem dX0_copyFrom_73 : decode cX0_copyFrom 73 = .ok (.getfield 27, 3) := by decide +kernel
theorem dX0_copyFrom_76 : decode cX0_copyFrom 76 = .ok (.iconst 0, 1) := by decide +kernel
theorem dX0_copyFrom_77 : decode cX0_copyFrom 77 = .ok (.aload_n 0, 1) := by decide +kernel
theorem dX0_copyFrom_78 : decode cX0_copyFrom 78 = .ok (.getfield 27, 3) := by decide +kernel
theorem dX0_copyFrom_81 : decode cX0_copyFrom 81 = .ok (.iconst 0, 1) := by decide +kernel
theorem dX0_copyFrom_82 : decode cX0_copyFrom 82 = .ok (.bipush 6, 2) := by decide +kernel
theorem dX0_copyFrom_84 : decode cX0_copyFrom 84 = .ok (.invokestatic 33, 3) := by decide +kernel
theorem dX0_copyFrom_87 : decode cX0_copyFrom 87 = .ok (.aload_n 1, 1) := by decide +kernel
theorem dX0_copyFrom_88 : decode cX0_copyFrom 88 = .ok (.getfield 30, 3) := by decide +kernel
theorem dX0_copyFrom_91 : decode cX0_copyFrom 91 = .ok (.iconst 0, 1) := by decide +kernel
theorem dX0_copyFrom_92 : decode cX0_copyFrom 92 = .ok (.aload_n 0, 1) := by decide +kernel
theorem dX0_copyFrom_93 : decode cX0_copyFrom 93 = .ok (.getfield 30, 3) := by decide +kernel
theorem dX0_copyFrom_96 : decode cX0_copyFrom 96 = .ok (.iconst 0, 1) := by decide +kernel
theorem dX0_copyFrom_97 : decode cX0_copyFrom 97 = .ok (.bipush 6, 2) := by decide +kernel
theorem dX0_copyFrom_99 : decode cX0_copyFrom 99 = .ok (.invokestatic 33, 3) := by decide +kernel
theorem dX0_copyFrom_102 : decode cX0_copyFrom 102 = .ok (.aload_n 0, 1) := by decide +kernel
theorem dX0_copyFrom_103 : decode cX0_copyFrom 103 = .ok (.aload_n 1, 1) := by decide +kernel
theorem dX0_copyFrom_104 : decode cX0_copyFrom 104 = .ok (.getfield 39, 3) := by decide +kernel
theorem dX0_copyFrom_107 : decode cX0_copyFrom 107 = .ok (.putfield 39, 3) := by decide +kernel
theorem dX0_copyFrom_110 : decode cX0_copyFrom 110 = .ok (.aload_n 0, 1) := by decide +kernel
theorem dX0_copyFrom_111 : decode cX0_copyFrom 111 = .ok (.aload_n 1, 1) := by decide +kernel
theorem dX0_copyFrom_112 : decode cX0_copyFrom 112 = .ok (.getfield 43, 3) := by decide +kernel
theorem dX0_copyFrom_115 : decode cX0_copyFrom 115 = .ok (.putfield 43, 3) := by decide +kernel
theorem dX0_copyFrom_118 : decode cX0_copyFrom 118 = .ok (.aload_n 0, 1) := by decide +kernel
theorem dX0_copyFrom_119 : decode cX0_copyFrom 119 = .ok (.aload_n 1, 1) := by decide +kernel
theorem dX0_copyFrom_120 : decode cX0_copyFrom 120 = .ok (.getfield 46, 3) := by decide +kernel
theorem dX0_copyFrom_123 : decode cX0_copyFrom 123 = .ok (.putfield 46, 3) := by decide +kernel
theorem dX0_copyFrom_126 : decode cX0_copyFrom 126 = .ok (.return_, 1) := by decide +kernel
set_option maxRecDepth 20000 in
theorem ggX0_tells_X0_tellsColours : GoodIn wsX0_tells wsX0_tellsColours := goodIn_r _ [7, 8, 9, 10, 11, 12, 13, 14, 15, 16, 17, 18, 19, 20, 21, 22, 23, 24, 25, 26, 27, 28, 29, 30] (by decide +kernel) (by decide +kernel)
set_option maxRecDepth 20000 in
theorem gX0_tells_X0_tellsColours : GoodIn wsX0_tells (wsV RX0 49 RX0 yX0_tellsColours wsX0_tellsColours) := goodIn_app (goodIn_of _ (by decide +kernel)) ggX0_tells_X0_tellsColours
theorem dX0_tells_0 : decode cX0_tells 0 = .ok (.aload_n 0, 1) := by decide +kernel
theorem dX0_tells_1 : decode cX0_tells 1 = .ok (.iload_n 1, 1) := by decide +kernel
theorem dX0_tells_2 : decode cX0_tells 2 = .ok (.aload_n 0, 1) := by decide +kernel
theorem dX0_tells_3 : decode cX0_tells 3 = .ok (.getfield 24, 3) := by decide +kernel
theorem dX0_tells_6 : decode cX0_tells 6 = .ok (.iload_n 1, 1) := by decide +kernel
theorem dX0_tells_7 : decode cX0_tells 7 = .ok (.iaload, 1) := by decide +kernel
theorem dX0_tells_8 : decode cX0_tells 8 = .ok (.aload_n 0, 1) := by decide +kernel
theorem dX0_tells_9 : decode cX0_tells 9 = .ok (.getfield 9, 3) := by decide +kernel
theorem dX0_tells_12 : decode cX0_tells 12 = .ok (.iload_n 2, 1) := by decide +kernel
theorem dX0_tells_13 : decode cX0_tells 13 = .ok (.iaload, 1) := by decide +kernel
theorem dX0_tells_14 : decode cX0_tells 14 = .ok (.aload_n 0, 1) := by decide +kernel
theorem dX0_tells_15 : decode cX0_tells 15 = .ok (.getfield 9, 3) := by decide +kernel
theorem dX0_tells_18 : decode cX0_tells 18 = .ok (.iload_n 3, 1) := by decide +kernel
theorem dX0_tells_19 : decode cX0_tells 19 = .ok (.iaload, 1) := by decide +kernel
theorem dX0_tells_20 : decode cX0_tells 20 = .ok (.invokevirtual 49, 3) := by decide +kernel
theorem dX0_tells_23 : decode cX0_tells 23 = .ok (.ireturn, 1) := by decide +kernel
set_option maxRecDepth 20000 in
theorem ggX0_tellsColours_X1_distance : GoodIn wsX0_tellsColours wsX1_distance := goodIn_r _ [6, 7, 8, 9, 10, 11, 12, 5, 13] (by decide +kernel) (by decide +kernel)
set_option maxRecDepth 20000 in
theorem gX0_tellsColours_X1_distance : GoodIn wsX0_tellsColours (va_wsS RX0 53 yX1_distance wsX1_distance) := goodIn_app (goodIn_of _ (by decide +kernel)) ggX0_tellsColours_X1_distance
theorem dX0_tellsColours_0 : decode cX0_tellsColours 0 = .ok (.aload_n 0, 1) := by decide +kernel
theorem dX0_tellsColours_1 : decode cX0_tellsColours 1 = .ok (.getfield 21, 3) := by decide +kernel
theorem dX0_tellsColours_4 : decode cX0_tellsColours 4 = .ok (.iload_n 1, 1) := by decide +kernel
theorem dX0_tellsColours_5 : decode cX0_tellsColours 5 = .ok (.iaload, 1) := by decide +kernel
theorem dX0_tellsColours_6 : decode cX0_tellsColours 6 = .ok (.istore 5, 2) := by decide +kernel
theorem dX0_tellsColours_8 : decode cX0_tellsColours 8 = .ok (.aload_n 0, 1) := by decide +kernel
theorem dX0_tellsColours_9 : decode cX0_tellsColours 9 = .ok (.getfield 18, 3) := by decide +kernel
theorem dX0_tellsColours_12 : decode cX0_tellsColours 12 = .ok (.iload_n 1, 1) := by decide +kernel
theorem dX0_tellsColours_13 : decode cX0_tellsColours 13 = .ok (.iaload, 1) := by decide +kernel
theorem dX0_tellsColours_14 : decode cX0_tellsColours 14 = .ok (.iload_n 3, 1) := by decide +kernel
theorem dX0_tellsColours_15 : decode cX0_tellsColours 15 = .ok (.iload 4, 2) := by decide +kernel
theorem dX0_tellsColours_17 : decode cX0_tellsColours 17 = .ok (.invokestatic 53, 3) := by decide +kernel
theorem dX0_tellsColours_20 : decode cX0_tellsColours 20 = .ok (.iload 5, 2) := by decide +kernel
theorem dX0_tellsColours_22 : decode cX0_tellsColours 22 = .ok (.if_icmp .le 5, 3) := by decide +kernel
theorem dX0_tellsColours_25 : decode cX0_tellsColours 25 = .ok (.iconst 1, 1) := by decide +kernel
theorem dX0_tellsColours_26 : decode cX0_tellsColours 26 = .ok (.ireturn, 1) := by decide +kernel
theorem dX0_tellsColours_27 : decode cX0_tellsColours 27 = .ok (.iload_n 2, 1) := by decide +kernel
theorem dX0_tellsColours_28 : decode cX0_tellsColours 28 = .ok (.iconst (-1), 1) := by decide +kernel
theorem dX0_tellsColours_29 : decode cX0_tellsColours 29 = .ok (.if_icmp .eq 24, 3) := by decide +kernel
theorem dX0_tellsColours_32 : decode cX0_tellsColours 32 = .ok (.aload_n 0, 1) := by decide +kernel
theorem dX0_tellsColours_33 : decode cX0_tellsColours 33 = .ok (.getfield 18, 3) := by decide +kernel
theorem dX0_tellsColours_36 : decode cX0_tellsColours 36 = .ok (.iload_n 2, 1) := by decide +kernel
theorem dX0_tellsColours_37 : decode cX0_tellsColours 37 = .ok (.iaload, 1) := by decide +kernel
theorem dX0_tellsColours_38 : decode cX0_tellsColours 38 = .ok (.iload_n 3, 1) := by decide +kernel
theorem dX0_tellsColours_39 : decode cX0_tellsColours 39 = .ok (.iload 4, 2) := by decide +kernel
theorem dX0_tellsColours_41 : decode cX0_tellsColours 41 = .ok (.invokestatic 53, 3) := by decide +kernel
theorem dX0_tellsColours_44 : decode cX0_tellsColours 44 = .ok (.iload 5, 2) := by decide +kernel
theorem dX0_tellsColours_46 : decode cX0_tellsColours 46 = .ok (.if_icmp .le 7, 3) := by decide +kernel
theorem dX0_tellsColours_49 : decode cX0_tellsColours 49 = .ok (.iconst 1, 1) := by decide +kernel
theorem dX0_tellsColours_50 : decode cX0_tellsColours 50 = .ok (.goto 4, 3) := by decide +kernel
theorem dX0_tellsColours_53 : decode cX0_tellsColours 53 = .ok (.iconst 0, 1) := by decide +kernel
theorem dX0_tellsColours_54 : decode cX0_tellsColours 54 = .ok (.ireturn, 1) := by decide +kernel
set_option maxRecDepth 20000 in
theorem ggX0_pairsTold_X0_tellsColours : GoodIn wsX0_pairsTold wsX0_tellsColours := goodIn_r _ [6, 7, 8, 9, 10, 11, 12, 13, 14, 15, 16, 17, 18, 19, 20, 21, 22, 23, 24, 25, 26, 27, 28, 29] (by decide +kernel) (by decide +kernel)
set_option maxRecDepth 20000 in
theorem gX0_pairsTold_X0_tellsColours : GoodIn wsX0_pairsTold (wsV RX0 49 RX0 yX0_tellsColours wsX0_tellsColours) := goodIn_app (goodIn_of _ (by decide +kernel)) ggX0_pairsTold_X0_tellsColours
theorem dX0_pairsTold_0 : decode cX0_pairsTold 0 = .ok (.iconst 0, 1) := by decide +kernel
theorem dX0_pairsTold_1 : decode cX0_pairsTold 1 = .ok (.istore_n 3, 1) := by decide +kernel
theorem dX0_pairsTold_2 : decode cX0_pairsTold 2 = .ok (.iconst 0, 1) := by decide +kernel
theorem dX0_pairsTold_3 : decode cX0_pairsTold 3 = .ok (.istore 4, 2) := by decide +kernel
theorem dX0_pairsTold_5 : decode cX0_pairsTold 5 = .ok (.iload 4, 2) := by decide +kernel
theorem dX0_pairsTold_7 : decode cX0_pairsTold 7 = .ok (.bipush 8, 2) := by decide +kernel
theorem dX0_pairsTold_9 : decode cX0_pairsTold 9 = .ok (.if_icmp .ge 54, 3) := by decide +kernel
theorem dX0_pairsTold_12 : decode cX0_pairsTold 12 = .ok (.iload 4, 2) := by decide +kernel
theorem dX0_pairsTold_14 : decode cX0_pairsTold 14 = .ok (.iconst 1, 1) := by decide +kernel
theorem dX0_pairsTold_15 : decode cX0_pairsTold 15 = .ok (.iadd, 1) := by decide +kernel
theorem dX0_pairsTold_16 : decode cX0_pairsTold 16 = .ok (.istore 5, 2) := by decide +kernel
theorem dX0_pairsTold_18 : decode cX0_pairsTold 18 = .ok (.iload 5, 2) := by decide +kernel
theorem dX0_pairsTold_20 : decode cX0_pairsTold 20 = .ok (.bipush 8, 2) := by decide +kernel
theorem dX0_pairsTold_22 : decode cX0_pairsTold 22 = .ok (.if_icmp .ge 35, 3) := by decide +kernel
theorem dX0_pairsTold_25 : decode cX0_pairsTold 25 = .ok (.aload_n 0, 1) := by decide +kernel
theorem dX0_pairsTold_26 : decode cX0_pairsTold 26 = .ok (.iload_n 1, 1) := by decide +kernel
theorem dX0_pairsTold_27 : decode cX0_pairsTold 27 = .ok (.iload_n 2, 1) := by decide +kernel
theorem dX0_pairsTold_28 : decode cX0_pairsTold 28 = .ok (.aload_n 0, 1) := by decide +kernel
theorem dX0_pairsTold_29 : decode cX0_pairsTold 29 = .ok (.getfield 9, 3) := by decide +kernel
theorem dX0_pairsTold_32 : decode cX0_pairsTold 32 = .ok (.iload 4, 2) := by decide +kernel
theorem dX0_pairsTold_34 : decode cX0_pairsTold 34 = .ok (.iaload, 1) := by decide +kernel
theorem dX0_pairsTold_35 : decode cX0_pairsTold 35 = .ok (.aload_n 0, 1) := by decide +kernel
theorem dX0_pairsTold_36 : decode cX0_pairsTold 36 = .ok (.getfield 9, 3) := by decide +kernel
theorem dX0_pairsTold_39 : decode cX0_pairsTold 39 = .ok (.iload 5, 2) := by decide +kernel
theorem dX0_pairsTold_41 : decode cX0_pairsTold 41 = .ok (.iaload, 1) := by decide +kernel
theorem dX0_pairsTold_42 : decode cX0_pairsTold 42 = .ok (.invokevirtual 49, 3) := by decide +kernel
theorem dX0_pairsTold_45 : decode cX0_pairsTold 45 = .ok (.ifCond .eq 6, 3) := by decide +kernel
theorem dX0_pairsTold_48 : decode cX0_pairsTold 48 = .ok (.iinc 3 1, 3) := by decide +kernel
theorem dX0_pairsTold_51 : decode cX0_pairsTold 51 = .ok (.iinc 5 1, 3) := by decide +kernel
theorem dX0_pairsTold_54 : decode cX0_pairsTold 54 = .ok (.goto (-36), 3) := by decide +kernel
theorem dX0_pairsTold_57 : decode cX0_pairsTold 57 = .ok (.iinc 4 1, 3) := by decide +kernel
theorem dX0_pairsTold_60 : decode cX0_pairsTold 60 = .ok (.goto (-55), 3) := by decide +kernel
theorem dX0_pairsTold_63 : decode cX0_pairsTold 63 = .ok (.iload_n 3, 1) := by decide +kernel
theorem dX0_pairsTold_64 : decode cX0_pairsTold 64 = .ok (.ireturn, 1) := by decide +kernel
set_option maxRecDepth 20000 in
theorem ggX0_pairsToldByNobody_X0_tellersOfPair : GoodIn wsX0_pairsToldByNobody wsX0_tellersOfPair := goodIn_r _ [5, 6, 7, 8, 9, 10, 4, 11, 12, 13, 14, 15, 16, 17, 18, 19, 20, 21, 22, 23, 24, 25, 26, 27, 28, 29, 30, 31, 32, 33, 34] (by decide +kernel) (by decide +kernel)
set_option maxRecDepth 20000 in
theorem gX0_pairsToldByNobody_X0_tellersOfPair : GoodIn wsX0_pairsToldByNobody (wsV RX0 59 RX0 yX0_tellersOfPair wsX0_tellersOfPair) := goodIn_app (goodIn_of _ (by decide +kernel)) ggX0_pairsToldByNobody_X0_tellersOfPair
theorem dX0_pairsToldByNobody_0 : decode cX0_pairsToldByNobody 0 = .ok (.iconst 0, 1) := by decide +kernel
theorem dX0_pairsToldByNobody_1 : decode cX0_pairsToldByNobody 1 = .ok (.istore_n 1, 1) := by decide +kernel
theorem dX0_pairsToldByNobody_2 : decode cX0_pairsToldByNobody 2 = .ok (.iconst 0, 1) := by decide +kernel
theorem dX0_pairsToldByNobody_3 : decode cX0_pairsToldByNobody 3 = .ok (.istore_n 2, 1) := by decide +kernel
theorem dX0_pairsToldByNobody_4 : decode cX0_pairsToldByNobody 4 = .ok (.iload_n 2, 1) := by decide +kernel
theorem dX0_pairsToldByNobody_5 : decode cX0_pairsToldByNobody 5 = .ok (.bipush 8, 2) := by decide +kernel
theorem dX0_pairsToldByNobody_7 : decode cX0_pairsToldByNobody 7 = .ok (.if_icmp .ge 37, 3) := by decide +kernel
theorem dX0_pairsToldByNobody_10 : decode cX0_pairsToldByNobody 10 = .ok (.iload_n 2, 1) := by decide +kernel
theorem dX0_pairsToldByNobody_11 : decode cX0_pairsToldByNobody 11 = .ok (.iconst 1, 1) := by decide +kernel
theorem dX0_pairsToldByNobody_12 : decode cX0_pairsToldByNobody 12 = .ok (.iadd, 1) := by decide +kernel
theorem dX0_pairsToldByNobody_13 : decode cX0_pairsToldByNobody 13 = .ok (.istore_n 3, 1) := by decide +kernel
theorem dX0_pairsToldByNobody_14 : decode cX0_pairsToldByNobody 14 = .ok (.iload_n 3, 1) := by decide +kernel
theorem dX0_pairsToldByNobody_15 : decode cX0_pairsToldByNobody 15 = .ok (.bipush 8, 2) := by decide +kernel
theorem dX0_pairsToldByNobody_17 : decode cX0_pairsToldByNobody 17 = .ok (.if_icmp .ge 21, 3) := by decide +kernel
theorem dX0_pairsToldByNobody_20 : decode cX0_pairsToldByNobody 20 = .ok (.aload_n 0, 1) := by decide +kernel
theorem dX0_pairsToldByNobody_21 : decode cX0_pairsToldByNobody 21 = .ok (.iload_n 2, 1) := by decide +kernel
theorem dX0_pairsToldByNobody_22 : decode cX0_pairsToldByNobody 22 = .ok (.iload_n 3, 1) := by decide +kernel
theorem dX0_pairsToldByNobody_23 : decode cX0_pairsToldByNobody 23 = .ok (.invokevirtual 59, 3) := by decide +kernel
theorem dX0_pairsToldByNobody_26 : decode cX0_pairsToldByNobody 26 = .ok (.ifCond .ne 6, 3) := by decide +kernel
theorem dX0_pairsToldByNobody_29 : decode cX0_pairsToldByNobody 29 = .ok (.iinc 1 1, 3) := by decide +kernel
theorem dX0_pairsToldByNobody_32 : decode cX0_pairsToldByNobody 32 = .ok (.iinc 3 1, 3) := by decide +kernel
theorem dX0_pairsToldByNobody_35 : decode cX0_pairsToldByNobody 35 = .ok (.goto (-21), 3) := by decide +kernel
theorem dX0_pairsToldByNobody_38 : decode cX0_pairsToldByNobody 38 = .ok (.iinc 2 1, 3) := by decide +kernel
theorem dX0_pairsToldByNobody_41 : decode cX0_pairsToldByNobody 41 = .ok (.goto (-37), 3) := by decide +kernel
theorem dX0_pairsToldByNobody_44 : decode cX0_pairsToldByNobody 44 = .ok (.iload_n 1, 1) := by decide +kernel
theorem dX0_pairsToldByNobody_45 : decode cX0_pairsToldByNobody 45 = .ok (.ireturn, 1) := by decide +kernel
set_option maxRecDepth 20000 in
theorem ggX0_tellersOfPair_X0_tellsColours : GoodIn wsX0_tellersOfPair wsX0_tellsColours := goodIn_r _ [7, 8, 9, 10, 11, 12, 13, 14, 15, 16, 17, 18, 19, 20, 21, 22, 23, 24, 25, 26, 27, 28, 29, 30] (by decide +kernel) (by decide +kernel)
set_option maxRecDepth 20000 in
theorem gX0_tellersOfPair_X0_tellsColours : GoodIn wsX0_tellersOfPair (wsV RX0 49 RX0 yX0_tellsColours wsX0_tellsColours) := goodIn_app (goodIn_of _ (by decide +kernel)) ggX0_tellersOfPair_X0_tellsColours
theorem dX0_tellersOfPair_0 : decode cX0_tellersOfPair 0 = .ok (.iconst 0, 1) := by decide +kernel
theorem dX0_tellersOfPair_1 : decode cX0_tellersOfPair 1 = .ok (.istore_n 3, 1) := by decide +kernel
theorem dX0_tellersOfPair_2 : decode cX0_tellersOfPair 2 = .ok (.iconst 0, 1) := by decide +kernel
theorem dX0_tellersOfPair_3 : decode cX0_tellersOfPair 3 = .ok (.istore 4, 2) := by decide +kernel
theorem dX0_tellersOfPair_5 : decode cX0_tellersOfPair 5 = .ok (.iload 4, 2) := by decide +kernel
theorem dX0_tellersOfPair_7 : decode cX0_tellersOfPair 7 = .ok (.iconst 4, 1) := by decide +kernel
theorem dX0_tellersOfPair_8 : decode cX0_tellersOfPair 8 = .ok (.if_icmp .ge 44, 3) := by decide +kernel
theorem dX0_tellersOfPair_11 : decode cX0_tellersOfPair 11 = .ok (.aload_n 0, 1) := by decide +kernel
theorem dX0_tellersOfPair_12 : decode cX0_tellersOfPair 12 = .ok (.iload 4, 2) := by decide +kernel
theorem dX0_tellersOfPair_14 : decode cX0_tellersOfPair 14 = .ok (.aload_n 0, 1) := by decide +kernel
theorem dX0_tellersOfPair_15 : decode cX0_tellersOfPair 15 = .ok (.getfield 24, 3) := by decide +kernel
theorem dX0_tellersOfPair_18 : decode cX0_tellersOfPair 18 = .ok (.iload 4, 2) := by decide +kernel
theorem dX0_tellersOfPair_20 : decode cX0_tellersOfPair 20 = .ok (.iaload, 1) := by decide +kernel
theorem dX0_tellersOfPair_21 : decode cX0_tellersOfPair 21 = .ok (.aload_n 0, 1) := by decide +kernel
theorem dX0_tellersOfPair_22 : decode cX0_tellersOfPair 22 = .ok (.getfield 9, 3) := by decide +kernel
theorem dX0_tellersOfPair_25 : decode cX0_tellersOfPair 25 = .ok (.iload_n 1, 1) := by decide +kernel
theorem dX0_tellersOfPair_26 : decode cX0_tellersOfPair 26 = .ok (.iaload, 1) := by decide +kernel
theorem dX0_tellersOfPair_27 : decode cX0_tellersOfPair 27 = .ok (.aload_n 0, 1) := by decide +kernel
theorem dX0_tellersOfPair_28 : decode cX0_tellersOfPair 28 = .ok (.getfield 9, 3) := by decide +kernel
theorem dX0_tellersOfPair_31 : decode cX0_tellersOfPair 31 = .ok (.iload_n 2, 1) := by decide +kernel
theorem dX0_tellersOfPair_32 : decode cX0_tellersOfPair 32 = .ok (.iaload, 1) := by decide +kernel
theorem dX0_tellersOfPair_33 : decode cX0_tellersOfPair 33 = .ok (.invokevirtual 49, 3) := by decide +kernel
theorem dX0_tellersOfPair_36 : decode cX0_tellersOfPair 36 = .ok (.ifCond .eq 10, 3) := by decide +kernel
theorem dX0_tellersOfPair_39 : decode cX0_tellersOfPair 39 = .ok (.iload_n 3, 1) := by decide +kernel
theorem dX0_tellersOfPair_40 : decode cX0_tellersOfPair 40 = .ok (.iconst 1, 1) := by decide +kernel
theorem dX0_tellersOfPair_41 : decode cX0_tellersOfPair 41 = .ok (.iload 4, 2) := by decide +kernel
theorem dX0_tellersOfPair_43 : decode cX0_tellersOfPair 43 = .ok (.ishl, 1) := by decide +kernel
theorem dX0_tellersOfPair_44 : decode cX0_tellersOfPair 44 = .ok (.ior, 1) := by decide +kernel
theorem dX0_tellersOfPair_45 : decode cX0_tellersOfPair 45 = .ok (.istore_n 3, 1) := by decide +kernel
theorem dX0_tellersOfPair_46 : decode cX0_tellersOfPair 46 = .ok (.iinc 4 1, 3) := by decide +kernel
theorem dX0_tellersOfPair_49 : decode cX0_tellersOfPair 49 = .ok (.goto (-44), 3) := by decide +kernel
theorem dX0_tellersOfPair_52 : decode cX0_tellersOfPair 52 = .ok (.iload_n 3, 1) := by decide +kernel
theorem dX0_tellersOfPair_53 : decode cX0_tellersOfPair 53 = .ok (.ireturn, 1) := by decide +kernel
set_option maxRecDepth 20000 in
theorem ggX0_tellersOf_X0_tellersOfPair : GoodIn wsX0_tellersOf wsX0_tellersOfPair := goodIn_r _ [5, 6, 7, 8, 9, 10, 4, 11, 12, 13, 14, 15, 16, 17, 18, 19, 20, 21, 22, 23, 24, 25, 26, 27, 28, 29, 30, 31, 32, 33, 34] (by decide +kernel) (by decide +kernel)
set_option maxRecDepth 20000 in
theorem gX0_tellersOf_X0_tellersOfPair : GoodIn wsX0_tellersOf (wsV RX0 59 RX0 yX0_tellersOfPair wsX0_tellersOfPair) := goodIn_app (goodIn_of _ (by decide +kernel)) ggX0_tellersOf_X0_tellersOfPair
theorem dX0_tellersOf_0 : decode cX0_tellersOf 0 = .ok (.iconst 0, 1) := by decide +kernel
theorem dX0_tellersOf_1 : decode cX0_tellersOf 1 = .ok (.istore_n 2, 1) := by decide +kernel
theorem dX0_tellersOf_2 : decode cX0_tellersOf 2 = .ok (.iconst 0, 1) := by decide +kernel
theorem dX0_tellersOf_3 : decode cX0_tellersOf 3 = .ok (.istore_n 3, 1) := by decide +kernel
theorem dX0_tellersOf_4 : decode cX0_tellersOf 4 = .ok (.iload_n 3, 1) := by decide +kernel
theorem dX0_tellersOf_5 : decode cX0_tellersOf 5 = .ok (.bipush 8, 2) := by decide +kernel
theorem dX0_tellersOf_7 : decode cX0_tellersOf 7 = .ok (.if_icmp .ge 18, 3) := by decide +kernel
theorem dX0_tellersOf_10 : decode cX0_tellersOf 10 = .ok (.iload_n 2, 1) := by decide +kernel
theorem dX0_tellersOf_11 : decode cX0_tellersOf 11 = .ok (.aload_n 0, 1) := by decide +kernel
theorem dX0_tellersOf_12 : decode cX0_tellersOf 12 = .ok (.iload_n 1, 1) := by decide +kernel
theorem dX0_tellersOf_13 : decode cX0_tellersOf 13 = .ok (.iload_n 3, 1) := by decide +kernel
theorem dX0_tellersOf_14 : decode cX0_tellersOf 14 = .ok (.invokevirtual 59, 3) := by decide +kernel
theorem dX0_tellersOf_17 : decode cX0_tellersOf 17 = .ok (.ior, 1) := by decide +kernel
theorem dX0_tellersOf_18 : decode cX0_tellersOf 18 = .ok (.istore_n 2, 1) := by decide +kernel
theorem dX0_tellersOf_19 : decode cX0_tellersOf 19 = .ok (.iinc 3 1, 3) := by decide +kernel
theorem dX0_tellersOf_22 : decode cX0_tellersOf 22 = .ok (.goto (-18), 3) := by decide +kernel
theorem dX0_tellersOf_25 : decode cX0_tellersOf 25 = .ok (.iload_n 2, 1) := by decide +kernel
theorem dX0_tellersOf_26 : decode cX0_tellersOf 26 = .ok (.ireturn, 1) := by decide +kernel
theorem dX0_labelled_0 : decode cX0_labelled 0 = .ok (.iconst 0, 1) := by decide +kernel
theorem dX0_labelled_1 : decode cX0_labelled 1 = .ok (.istore_n 1, 1) := by decide +kernel
theorem dX0_labelled_2 : decode cX0_labelled 2 = .ok (.iconst 0, 1) := by decide +kernel
theorem dX0_labelled_3 : decode cX0_labelled 3 = .ok (.istore_n 2, 1) := by decide +kernel
theorem dX0_labelled_4 : decode cX0_labelled 4 = .ok (.iload_n 2, 1) := by decide +kernel
theorem dX0_labelled_5 : decode cX0_labelled 5 = .ok (.bipush 8, 2) := by decide +kernel
theorem dX0_labelled_7 : decode cX0_labelled 7 = .ok (.if_icmp .ge 22, 3) := by decide +kernel
theorem dX0_labelled_10 : decode cX0_labelled 10 = .ok (.aload_n 0, 1) := by decide +kernel
theorem dX0_labelled_11 : decode cX0_labelled 11 = .ok (.getfield 15, 3) := by decide +kernel
theorem dX0_labelled_14 : decode cX0_labelled 14 = .ok (.iload_n 2, 1) := by decide +kernel
theorem dX0_labelled_15 : decode cX0_labelled 15 = .ok (.iaload, 1) := by decide +kernel
theorem dX0_labelled_16 : decode cX0_labelled 16 = .ok (.iconst (-1), 1) := by decide +kernel
theorem dX0_labelled_17 : decode cX0_labelled 17 = .ok (.if_icmp .eq 6, 3) := by decide +kernel
theorem dX0_labelled_20 : decode cX0_labelled 20 = .ok (.iinc 1 1, 3) := by decide +kernel
theorem dX0_labelled_23 : decode cX0_labelled 23 = .ok (.iinc 2 1, 3) := by decide +kernel
theorem dX0_labelled_26 : decode cX0_labelled 26 = .ok (.goto (-22), 3) := by decide +kernel
theorem dX0_labelled_29 : decode cX0_labelled 29 = .ok (.iload_n 1, 1) := by decide +kernel
theorem dX0_labelled_30 : decode cX0_labelled 30 = .ok (.ireturn, 1) := by decide +kernel
set_option maxRecDepth 20000 in
theorem ggX0_unlikeLabels_J6_bitCount_0f7a4 : GoodIn wsX0_unlikeLabels wsJ6_bitCount_0f7a4 := goodIn_r _ [5, 6, 7, 8] (by decide +kernel) (by decide +kernel)
set_option maxRecDepth 20000 in
theorem gX0_unlikeLabels_J6_bitCount_0f7a4 : GoodIn wsX0_unlikeLabels (va_wsS RX0 63 yJ6_bitCount_0f7a4 wsJ6_bitCount_0f7a4) := goodIn_app (goodIn_of _ (by decide +kernel)) ggX0_unlikeLabels_J6_bitCount_0f7a4
theorem dX0_unlikeLabels_0 : decode cX0_unlikeLabels 0 = .ok (.iconst 0, 1) := by decide +kernel
theorem dX0_unlikeLabels_1 : decode cX0_unlikeLabels 1 = .ok (.istore_n 1, 1) := by decide +kernel
theorem dX0_unlikeLabels_2 : decode cX0_unlikeLabels 2 = .ok (.iconst 0, 1) := by decide +kernel
theorem dX0_unlikeLabels_3 : decode cX0_unlikeLabels 3 = .ok (.istore_n 2, 1) := by decide +kernel
theorem dX0_unlikeLabels_4 : decode cX0_unlikeLabels 4 = .ok (.iload_n 2, 1) := by decide +kernel
theorem dX0_unlikeLabels_5 : decode cX0_unlikeLabels 5 = .ok (.bipush 8, 2) := by decide +kernel
theorem dX0_unlikeLabels_7 : decode cX0_unlikeLabels 7 = .ok (.if_icmp .ge 30, 3) := by decide +kernel
theorem dX0_unlikeLabels_10 : decode cX0_unlikeLabels 10 = .ok (.aload_n 0, 1) := by decide +kernel
theorem dX0_unlikeLabels_11 : decode cX0_unlikeLabels 11 = .ok (.getfield 15, 3) := by decide +kernel
theorem dX0_unlikeLabels_14 : decode cX0_unlikeLabels 14 = .ok (.iload_n 2, 1) := by decide +kernel
theorem dX0_unlikeLabels_15 : decode cX0_unlikeLabels 15 = .ok (.iaload, 1) := by decide +kernel
theorem dX0_unlikeLabels_16 : decode cX0_unlikeLabels 16 = .ok (.iconst (-1), 1) := by decide +kernel
theorem dX0_unlikeLabels_17 : decode cX0_unlikeLabels 17 = .ok (.if_icmp .eq 14, 3) := by decide +kernel
theorem dX0_unlikeLabels_20 : decode cX0_unlikeLabels 20 = .ok (.iload_n 1, 1) := by decide +kernel
theorem dX0_unlikeLabels_21 : decode cX0_unlikeLabels 21 = .ok (.iconst 1, 1) := by decide +kernel
theorem dX0_unlikeLabels_22 : decode cX0_unlikeLabels 22 = .ok (.aload_n 0, 1) := by decide +kernel
theorem dX0_unlikeLabels_23 : decode cX0_unlikeLabels 23 = .ok (.getfield 15, 3) := by decide +kernel
theorem dX0_unlikeLabels_26 : decode cX0_unlikeLabels 26 = .ok (.iload_n 2, 1) := by decide +kernel
theorem dX0_unlikeLabels_27 : decode cX0_unlikeLabels 27 = .ok (.iaload, 1) := by decide +kernel
theorem dX0_unlikeLabels_28 : decode cX0_unlikeLabels 28 = .ok (.ishl, 1) := by decide +kernel
theorem dX0_unlikeLabels_29 : decode cX0_unlikeLabels 29 = .ok (.ior, 1) := by decide +kernel
theorem dX0_unlikeLabels_30 : decode cX0_unlikeLabels 30 = .ok (.istore_n 1, 1) := by decide +kernel
theorem dX0_unlikeLabels_31 : decode cX0_unlikeLabels 31 = .ok (.iinc 2 1, 3) := by decide +kernel
theorem dX0_unlikeLabels_34 : decode cX0_unlikeLabels 34 = .ok (.goto (-30), 3) := by decide +kernel
theorem dX0_unlikeLabels_37 : decode cX0_unlikeLabels 37 = .ok (.iload_n 1, 1) := by decide +kernel
theorem dX0_unlikeLabels_38 : decode cX0_unlikeLabels 38 = .ok (.invokestatic 63, 3) := by decide +kernel
theorem dX0_unlikeLabels_41 : decode cX0_unlikeLabels 41 = .ok (.ireturn, 1) := by decide +kernel
set_option maxRecDepth 20000 in
theorem ggX0_wrongPairs_X0_tells : GoodIn wsX0_wrongPairs wsX0_tells := goodIn_r _ [6, 7, 8, 9, 10, 11, 5, 12, 13, 14, 15, 16, 17, 18, 19, 20, 21, 22, 23, 24, 25, 26, 27, 28, 29, 30, 31, 32, 33, 34, 35] (by decide +kernel) (by decide +kernel)
set_option maxRecDepth 20000 in
theorem gX0_wrongPairs_X0_tells : GoodIn wsX0_wrongPairs (wsV RX0 69 RX0 yX0_tells wsX0_tells) := goodIn_app (goodIn_of _ (by decide +kernel)) ggX0_wrongPairs_X0_tells
theorem dX0_wrongPairs_0 : decode cX0_wrongPairs 0 = .ok (.iconst 0, 1) := by decide +kernel
theorem dX0_wrongPairs_1 : decode cX0_wrongPairs 1 = .ok (.istore_n 2, 1) := by decide +kernel
theorem dX0_wrongPairs_2 : decode cX0_wrongPairs 2 = .ok (.iconst 0, 1) := by decide +kernel
theorem dX0_wrongPairs_3 : decode cX0_wrongPairs 3 = .ok (.istore_n 3, 1) := by decide +kernel
theorem dX0_wrongPairs_4 : decode cX0_wrongPairs 4 = .ok (.iload_n 3, 1) := by decide +kernel
theorem dX0_wrongPairs_5 : decode cX0_wrongPairs 5 = .ok (.bipush 8, 2) := by decide +kernel
theorem dX0_wrongPairs_7 : decode cX0_wrongPairs 7 = .ok (.if_icmp .ge 67, 3) := by decide +kernel
theorem dX0_wrongPairs_10 : decode cX0_wrongPairs 10 = .ok (.iload_n 3, 1) := by decide +kernel
theorem dX0_wrongPairs_11 : decode cX0_wrongPairs 11 = .ok (.iconst 1, 1) := by decide +kernel
theorem dX0_wrongPairs_12 : decode cX0_wrongPairs 12 = .ok (.iadd, 1) := by decide +kernel
theorem dX0_wrongPairs_13 : decode cX0_wrongPairs 13 = .ok (.istore 4, 2) := by decide +kernel
theorem dX0_wrongPairs_15 : decode cX0_wrongPairs 15 = .ok (.iload 4, 2) := by decide +kernel
theorem dX0_wrongPairs_17 : decode cX0_wrongPairs 17 = .ok (.bipush 8, 2) := by decide +kernel
theorem dX0_wrongPairs_19 : decode cX0_wrongPairs 19 = .ok (.if_icmp .ge 49, 3) := by decide +kernel
theorem dX0_wrongPairs_22 : decode cX0_wrongPairs 22 = .ok (.aload_n 0, 1) := by decide +kernel
theorem dX0_wrongPairs_23 : decode cX0_wrongPairs 23 = .ok (.getfield 15, 3) := by decide +kernel
theorem dX0_wrongPairs_26 : decode cX0_wrongPairs 26 = .ok (.iload_n 3, 1) := by decide +kernel
theorem dX0_wrongPairs_27 : decode cX0_wrongPairs 27 = .ok (.iaload, 1) := by decide +kernel
theorem dX0_wrongPairs_28 : decode cX0_wrongPairs 28 = .ok (.iconst (-1), 1) := by decide +kernel
theorem dX0_wrongPairs_29 : decode cX0_wrongPairs 29 = .ok (.if_icmp .eq 33, 3) := by decide +kernel
theorem dX0_wrongPairs_32 : decode cX0_wrongPairs 32 = .ok (.aload_n 0, 1) := by decide +kernel
theorem dX0_wrongPairs_33 : decode cX0_wrongPairs 33 = .ok (.getfield 15, 3) := by decide +kernel
theorem dX0_wrongPairs_36 : decode cX0_wrongPairs 36 = .ok (.iload_n 3, 1) := by decide +kernel
theorem dX0_wrongPairs_37 : decode cX0_wrongPairs 37 = .ok (.iaload, 1) := by decide +kernel
theorem dX0_wrongPairs_38 : decode cX0_wrongPairs 38 = .ok (.aload_n 0, 1) := by decide +kernel
theorem dX0_wrongPairs_39 : decode cX0_wrongPairs 39 = .ok (.getfield 15, 3) := by decide +kernel
theorem dX0_wrongPairs_42 : decode cX0_wrongPairs 42 = .ok (.iload 4, 2) := by decide +kernel
theorem dX0_wrongPairs_44 : decode cX0_wrongPairs 44 = .ok (.iaload, 1) := by decide +kernel
theorem dX0_wrongPairs_45 : decode cX0_wrongPairs 45 = .ok (.if_icmp .ne 17, 3) := by decide +kernel
theorem dX0_wrongPairs_48 : decode cX0_wrongPairs 48 = .ok (.aload_n 0, 1) := by decide +kernel
theorem dX0_wrongPairs_49 : decode cX0_wrongPairs 49 = .ok (.iload_n 1, 1) := by decide +kernel
theorem dX0_wrongPairs_50 : decode cX0_wrongPairs 50 = .ok (.iload_n 3, 1) := by decide +kernel
theorem dX0_wrongPairs_51 : decode cX0_wrongPairs 51 = .ok (.iload 4, 2) := by decide +kernel
theorem dX0_wrongPairs_53 : decode cX0_wrongPairs 53 = .ok (.invokevirtual 69, 3) := by decide +kernel
theorem dX0_wrongPairs_56 : decode cX0_wrongPairs 56 = .ok (.ifCond .eq 6, 3) := by decide +kernel
theorem dX0_wrongPairs_59 : decode cX0_wrongPairs 59 = .ok (.iinc 2 1, 3) := by decide +kernel
theorem dX0_wrongPairs_62 : decode cX0_wrongPairs 62 = .ok (.iinc 4 1, 3) := by decide +kernel
theorem dX0_wrongPairs_65 : decode cX0_wrongPairs 65 = .ok (.goto (-50), 3) := by decide +kernel
theorem dX0_wrongPairs_68 : decode cX0_wrongPairs 68 = .ok (.iinc 3 1, 3) := by decide +kernel
theorem dX0_wrongPairs_71 : decode cX0_wrongPairs 71 = .ok (.goto (-67), 3) := by decide +kernel
theorem dX0_wrongPairs_74 : decode cX0_wrongPairs 74 = .ok (.iload_n 2, 1) := by decide +kernel
theorem dX0_wrongPairs_75 : decode cX0_wrongPairs 75 = .ok (.ireturn, 1) := by decide +kernel
set_option maxRecDepth 20000 in
theorem ggX0_paintersServed_X0_wrongPairs : GoodIn wsX0_paintersServed wsX0_wrongPairs := goodIn_r _ [5, 6, 7, 8, 9, 4, 10, 11, 12, 13, 14, 15, 16, 17, 18, 19, 20, 21, 22, 23, 24, 25, 26, 27, 28, 29, 30, 31, 32, 33, 34, 35, 36, 37, 38, 39] (by decide +kernel) (by decide +kernel)
set_option maxRecDepth 20000 in
theorem gX0_paintersServed_X0_wrongPairs : GoodIn wsX0_paintersServed (wsV RX0 73 RX0 yX0_wrongPairs wsX0_wrongPairs) := goodIn_app (goodIn_of _ (by decide +kernel)) ggX0_paintersServed_X0_wrongPairs
theorem dX0_paintersServed_0 : decode cX0_paintersServed 0 = .ok (.iconst 0, 1) := by decide +kernel
theorem dX0_paintersServed_1 : decode cX0_paintersServed 1 = .ok (.istore_n 1, 1) := by decide +kernel
theorem dX0_paintersServed_2 : decode cX0_paintersServed 2 = .ok (.iconst 0, 1) := by decide +kernel
theorem dX0_paintersServed_3 : decode cX0_paintersServed 3 = .ok (.istore_n 2, 1) := by decide +kernel
theorem dX0_paintersServed_4 : decode cX0_paintersServed 4 = .ok (.iload_n 2, 1) := by decide +kernel
theorem dX0_paintersServed_5 : decode cX0_paintersServed 5 = .ok (.iconst 4, 1) := by decide +kernel
theorem dX0_paintersServed_6 : decode cX0_paintersServed 6 = .ok (.if_icmp .ge 20, 3) := by decide +kernel
theorem dX0_paintersServed_9 : decode cX0_paintersServed 9 = .ok (.aload_n 0, 1) := by decide +kernel
theorem dX0_paintersServed_10 : decode cX0_paintersServed 10 = .ok (.iload_n 2, 1) := by decide +kernel
theorem dX0_paintersServed_11 : decode cX0_paintersServed 11 = .ok (.invokevirtual 73, 3) := by decide +kernel
theorem dX0_paintersServed_14 : decode cX0_paintersServed 14 = .ok (.ifCond .ne 6, 3) := by decide +kernel
theorem dX0_paintersServed_17 : decode cX0_paintersServed 17 = .ok (.iinc 1 1, 3) := by decide +kernel
theorem dX0_paintersServed_20 : decode cX0_paintersServed 20 = .ok (.iinc 2 1, 3) := by decide +kernel
theorem dX0_paintersServed_23 : decode cX0_paintersServed 23 = .ok (.goto (-19), 3) := by decide +kernel
theorem dX0_paintersServed_26 : decode cX0_paintersServed 26 = .ok (.iload_n 1, 1) := by decide +kernel
theorem dX0_paintersServed_27 : decode cX0_paintersServed 27 = .ok (.ireturn, 1) := by decide +kernel
set_option maxRecDepth 20000 in
theorem ggX0_labelInOrder_X0_tells : GoodIn wsX0_labelInOrder wsX0_tells := goodIn_r _ [6, 7, 8, 9, 10, 11, 5, 12, 13, 14, 15, 16, 17, 18, 19, 20, 21, 22, 23, 24, 25, 29, 30, 31, 32, 33, 34, 35, 36, 37, 38] (by decide +kernel) (by decide +kernel)
set_option maxRecDepth 20000 in
theorem gX0_labelInOrder_X0_tells : GoodIn wsX0_labelInOrder (wsV RX0 69 RX0 yX0_tells wsX0_tells) := goodIn_app (goodIn_of _ (by decide +kernel)) ggX0_labelInOrder_X0_tells
set_option maxRecDepth 20000 in
theorem ggX0_labelInOrder_X0_leastOutside : GoodIn wsX0_labelInOrder wsX0_leastOutside := goodIn_r _ [28] (by decide +kernel) (by decide +kernel)
set_option maxRecDepth 20000 in
theorem gX0_labelInOrder_X0_leastOutside : GoodIn wsX0_labelInOrder (va_wsS RX0 76 yX0_leastOutside wsX0_leastOutside) := goodIn_app (goodIn_of _ (by decide +kernel)) ggX0_labelInOrder_X0_leastOutside
theorem dX0_labelInOrder_0 : decode cX0_labelInOrder 0 = .ok (.iconst 0, 1) := by decide +kernel
theorem dX0_labelInOrder_1 : decode cX0_labelInOrder 1 = .ok (.istore_n 2, 1) := by decide +kernel
theorem dX0_labelInOrder_2 : decode cX0_labelInOrder 2 = .ok (.iload_n 2, 1) := by decide +kernel
theorem dX0_labelInOrder_3 : decode cX0_labelInOrder 3 = .ok (.bipush 8, 2) := by decide +kernel
theorem dX0_labelInOrder_5 : decode cX0_labelInOrder 5 = .ok (.if_icmp .ge 59, 3) := by decide +kernel
theorem dX0_labelInOrder_8 : decode cX0_labelInOrder 8 = .ok (.iconst 0, 1) := by decide +kernel
theorem dX0_labelInOrder_9 : decode cX0_labelInOrder 9 = .ok (.istore_n 3, 1) := by decide +kernel
theorem dX0_labelInOrder_10 : decode cX0_labelInOrder 10 = .ok (.iconst 0, 1) := by decide +kernel
theorem dX0_labelInOrder_11 : decode cX0_labelInOrder 11 = .ok (.istore 4, 2) := by decide +kernel
theorem dX0_labelInOrder_13 : decode cX0_labelInOrder 13 = .ok (.iload 4, 2) := by decide +kernel
theorem dX0_labelInOrder_15 : decode cX0_labelInOrder 15 = .ok (.iload_n 2, 1) := by decide +kernel
theorem dX0_labelInOrder_16 : decode cX0_labelInOrder 16 = .ok (.if_icmp .ge 32, 3) := by decide +kernel
theorem dX0_labelInOrder_19 : decode cX0_labelInOrder 19 = .ok (.aload_n 0, 1) := by decide +kernel
theorem dX0_labelInOrder_20 : decode cX0_labelInOrder 20 = .ok (.iload_n 1, 1) := by decide +kernel
theorem dX0_labelInOrder_21 : decode cX0_labelInOrder 21 = .ok (.iload 4, 2) := by decide +kernel
theorem dX0_labelInOrder_23 : decode cX0_labelInOrder 23 = .ok (.iload_n 2, 1) := by decide +kernel
theorem dX0_labelInOrder_24 : decode cX0_labelInOrder 24 = .ok (.invokevirtual 69, 3) := by decide +kernel
theorem dX0_labelInOrder_27 : decode cX0_labelInOrder 27 = .ok (.ifCond .eq 15, 3) := by decide +kernel
theorem dX0_labelInOrder_30 : decode cX0_labelInOrder 30 = .ok (.iload_n 3, 1) := by decide +kernel
theorem dX0_labelInOrder_31 : decode cX0_labelInOrder 31 = .ok (.iconst 1, 1) := by decide +kernel
theorem dX0_labelInOrder_32 : decode cX0_labelInOrder 32 = .ok (.aload_n 0, 1) := by decide +kernel
theorem dX0_labelInOrder_33 : decode cX0_labelInOrder 33 = .ok (.getfield 15, 3) := by decide +kernel
theorem dX0_labelInOrder_36 : decode cX0_labelInOrder 36 = .ok (.iload 4, 2) := by decide +kernel
theorem dX0_labelInOrder_38 : decode cX0_labelInOrder 38 = .ok (.iaload, 1) := by decide +kernel
theorem dX0_labelInOrder_39 : decode cX0_labelInOrder 39 = .ok (.ishl, 1) := by decide +kernel
theorem dX0_labelInOrder_40 : decode cX0_labelInOrder 40 = .ok (.ior, 1) := by decide +kernel
theorem dX0_labelInOrder_41 : decode cX0_labelInOrder 41 = .ok (.istore_n 3, 1) := by decide +kernel
theorem dX0_labelInOrder_42 : decode cX0_labelInOrder 42 = .ok (.iinc 4 1, 3) := by decide +kernel
theorem dX0_labelInOrder_45 : decode cX0_labelInOrder 45 = .ok (.goto (-32), 3) := by decide +kernel
theorem dX0_labelInOrder_48 : decode cX0_labelInOrder 48 = .ok (.aload_n 0, 1) := by decide +kernel
theorem dX0_labelInOrder_49 : decode cX0_labelInOrder 49 = .ok (.getfield 15, 3) := by decide +kernel
theorem dX0_labelInOrder_52 : decode cX0_labelInOrder 52 = .ok (.iload_n 2, 1) := by decide +kernel
theorem dX0_labelInOrder_53 : decode cX0_labelInOrder 53 = .ok (.iload_n 3, 1) := by decide +kernel
theorem dX0_labelInOrder_54 : decode cX0_labelInOrder 54 = .ok (.invokestatic 76, 3) := by decide +kernel
theorem dX0_labelInOrder_57 : decode cX0_labelInOrder 57 = .ok (.iastore, 1) := by decide +kernel
theorem dX0_labelInOrder_58 : decode cX0_labelInOrder 58 = .ok (.iinc 2 1, 3) := by decide +kernel
theorem dX0_labelInOrder_61 : decode cX0_labelInOrder 61 = .ok (.goto (-59), 3) := by decide +kernel
theorem dX0_labelInOrder_64 : decode cX0_labelInOrder 64 = .ok (.return_, 1) := by decide +kernel
theorem dX0_leastOutside_0 : decode cX0_leastOutside 0 = .ok (.iconst 0, 1) := by decide +kernel
theorem dX0_leastOutside_1 : decode cX0_leastOutside 1 = .ok (.istore_n 1, 1) := by decide +kernel
theorem dX0_leastOutside_2 : decode cX0_leastOutside 2 = .ok (.iload_n 1, 1) := by decide +kernel
theorem dX0_leastOutside_3 : decode cX0_leastOutside 3 = .ok (.bipush 7, 2) := by decide +kernel
theorem dX0_leastOutside_5 : decode cX0_leastOutside 5 = .ok (.if_icmp .ge 17, 3) := by decide +kernel
theorem dX0_leastOutside_8 : decode cX0_leastOutside 8 = .ok (.iload_n 0, 1) := by decide +kernel
theorem dX0_leastOutside_9 : decode cX0_leastOutside 9 = .ok (.iload_n 1, 1) := by decide +kernel
theorem dX0_leastOutside_10 : decode cX0_leastOutside 10 = .ok (.ishr, 1) := by decide +kernel
theorem dX0_leastOutside_11 : decode cX0_leastOutside 11 = .ok (.iconst 1, 1) := by decide +kernel
theorem dX0_leastOutside_12 : decode cX0_leastOutside 12 = .ok (.iand, 1) := by decide +kernel
theorem dX0_leastOutside_13 : decode cX0_leastOutside 13 = .ok (.ifCond .eq 9, 3) := by decide +kernel
theorem dX0_leastOutside_16 : decode cX0_leastOutside 16 = .ok (.iinc 1 1, 3) := by decide +kernel
theorem dX0_leastOutside_19 : decode cX0_leastOutside 19 = .ok (.goto (-17), 3) := by decide +kernel
theorem dX0_leastOutside_22 : decode cX0_leastOutside 22 = .ok (.iload_n 1, 1) := by decide +kernel
theorem dX0_leastOutside_23 : decode cX0_leastOutside 23 = .ok (.ireturn, 1) := by decide +kernel
theorem dX0_addChart_0 : decode cX0_addChart 0 = .ok (.aload_n 0, 1) := by decide +kernel
theorem dX0_addChart_1 : decode cX0_addChart 1 = .ok (.getfield 39, 3) := by decide +kernel
theorem dX0_addChart_4 : decode cX0_addChart 4 = .ok (.bipush 6, 2) := by decide +kernel
theorem dX0_addChart_6 : decode cX0_addChart 6 = .ok (.if_icmp .lt 15, 3) := by decide +kernel
theorem dX0_addChart_9 : decode cX0_addChart 9 = .ok (.aload_n 0, 1) := by decide +kernel
theorem dX0_addChart_10 : decode cX0_addChart 10 = .ok (.dup, 1) := by decide +kernel
theorem dX0_addChart_11 : decode cX0_addChart 11 = .ok (.getfield 46, 3) := by decide +kernel
theorem dX0_addChart_14 : decode cX0_addChart 14 = .ok (.iconst 1, 1) := by decide +kernel
theorem dX0_addChart_15 : decode cX0_addChart 15 = .ok (.iadd, 1) := by decide +kernel
theorem dX0_addChart_16 : decode cX0_addChart 16 = .ok (.putfield 46, 3) := by decide +kernel
theorem dX0_addChart_19 : decode cX0_addChart 19 = .ok (.iconst (-1), 1) := by decide +kernel
theorem dX0_addChart_20 : decode cX0_addChart 20 = .ok (.ireturn, 1) := by decide +kernel
theorem dX0_addChart_21 : decode cX0_addChart 21 = .ok (.aload_n 0, 1) := by decide +kernel
theorem dX0_addChart_22 : decode cX0_addChart 22 = .ok (.getfield 27, 3) := by decide +kernel
theorem dX0_addChart_25 : decode cX0_addChart 25 = .ok (.aload_n 0, 1) := by decide +kernel
theorem dX0_addChart_26 : decode cX0_addChart 26 = .ok (.getfield 39, 3) := by decide +kernel
theorem dX0_addChart_29 : decode cX0_addChart 29 = .ok (.iload_n 1, 1) := by decide +kernel
theorem dX0_addChart_30 : decode cX0_addChart 30 = .ok (.iastore, 1) := by decide +kernel
theorem dX0_addChart_31 : decode cX0_addChart 31 = .ok (.aload_n 0, 1) := by decide +kernel
theorem dX0_addChart_32 : decode cX0_addChart 32 = .ok (.getfield 30, 3) := by decide +kernel
theorem dX0_addChart_35 : decode cX0_addChart 35 = .ok (.aload_n 0, 1) := by decide +kernel
theorem dX0_addChart_36 : decode cX0_addChart 36 = .ok (.getfield 39, 3) := by decide +kernel
theorem dX0_addChart_39 : decode cX0_addChart 39 = .ok (.iload_n 2, 1) := by decide +kernel
theorem dX0_addChart_40 : decode cX0_addChart 40 = .ok (.iastore, 1) := by decide +kernel
theorem dX0_addChart_41 : decode cX0_addChart 41 = .ok (.aload_n 0, 1) := by decide +kernel
theorem dX0_addChart_42 : decode cX0_addChart 42 = .ok (.dup, 1) := by decide +kernel
theorem dX0_addChart_43 : decode cX0_addChart 43 = .ok (.getfield 39, 3) := by decide +kernel
theorem dX0_addChart_46 : decode cX0_addChart 46 = .ok (.iconst 1, 1) := by decide +kernel
theorem dX0_addChart_47 : decode cX0_addChart 47 = .ok (.iadd, 1) := by decide +kernel
theorem dX0_addChart_48 : decode cX0_addChart 48 = .ok (.putfield 39, 3) := by decide +kernel
theorem dX0_addChart_51 : decode cX0_addChart 51 = .ok (.aload_n 0, 1) := by decide +kernel
theorem dX0_addChart_52 : decode cX0_addChart 52 = .ok (.getfield 39, 3) := by decide +kernel
theorem dX0_addChart_55 : decode cX0_addChart 55 = .ok (.iconst 1, 1) := by decide +kernel
theorem dX0_addChart_56 : decode cX0_addChart 56 = .ok (.isub, 1) := by decide +kernel
theorem dX0_addChart_57 : decode cX0_addChart 57 = .ok (.ireturn, 1) := by decide +kernel
theorem dX0_removeChart_0 : decode cX0_removeChart 0 = .ok (.iload_n 1, 1) := by decide +kernel
theorem dX0_removeChart_1 : decode cX0_removeChart 1 = .ok (.iconst 1, 1) := by decide +kernel
theorem dX0_removeChart_2 : decode cX0_removeChart 2 = .ok (.iadd, 1) := by decide +kernel
theorem dX0_removeChart_3 : decode cX0_removeChart 3 = .ok (.istore_n 2, 1) := by decide +kernel
theorem dX0_removeChart_4 : decode cX0_removeChart 4 = .ok (.iload_n 2, 1) := by decide +kernel
theorem dX0_removeChart_5 : decode cX0_removeChart 5 = .ok (.aload_n 0, 1) := by decide +kernel
theorem dX0_removeChart_6 : decode cX0_removeChart 6 = .ok (.getfield 39, 3) := by decide +kernel
theorem dX0_removeChart_9 : decode cX0_removeChart 9 = .ok (.if_icmp .ge 37, 3) := by decide +kernel
theorem dX0_removeChart_12 : decode cX0_removeChart 12 = .ok (.aload_n 0, 1) := by decide +kernel
theorem dX0_removeChart_13 : decode cX0_removeChart 13 = .ok (.getfield 27, 3) := by decide +kernel
theorem dX0_removeChart_16 : decode cX0_removeChart 16 = .ok (.iload_n 2, 1) := by decide +kernel
theorem dX0_removeChart_17 : decode cX0_removeChart 17 = .ok (.iconst 1, 1) := by decide +kernel
theorem dX0_removeChart_18 : decode cX0_removeChart 18 = .ok (.isub, 1) := by decide +kernel
theorem dX0_removeChart_19 : decode cX0_removeChart 19 = .ok (.aload_n 0, 1) := by decide +kernel
theorem dX0_removeChart_20 : decode cX0_removeChart 20 = .ok (.getfield 27, 3) := by decide +kernel
theorem dX0_removeChart_23 : decode cX0_removeChart 23 = .ok (.iload_n 2, 1) := by decide +kernel
theorem dX0_removeChart_24 : decode cX0_removeChart 24 = .ok (.iaload, 1) := by decide +kernel
theorem dX0_removeChart_25 : decode cX0_removeChart 25 = .ok (.iastore, 1) := by decide +kernel
theorem dX0_removeChart_26 : decode cX0_removeChart 26 = .ok (.aload_n 0, 1) := by decide +kernel
theorem dX0_removeChart_27 : decode cX0_removeChart 27 = .ok (.getfield 30, 3) := by decide +kernel
theorem dX0_removeChart_30 : decode cX0_removeChart 30 = .ok (.iload_n 2, 1) := by decide +kernel
theorem dX0_removeChart_31 : decode cX0_removeChart 31 = .ok (.iconst 1, 1) := by decide +kernel
theorem dX0_removeChart_32 : decode cX0_removeChart 32 = .ok (.isub, 1) := by decide +kernel
theorem dX0_removeChart_33 : decode cX0_removeChart 33 = .ok (.aload_n 0, 1) := by decide +kernel
theorem dX0_removeChart_34 : decode cX0_removeChart 34 = .ok (.getfield 30, 3) := by decide +kernel
theorem dX0_removeChart_37 : decode cX0_removeChart 37 = .ok (.iload_n 2, 1) := by decide +kernel
theorem dX0_removeChart_38 : decode cX0_removeChart 38 = .ok (.iaload, 1) := by decide +kernel
theorem dX0_removeChart_39 : decode cX0_removeChart 39 = .ok (.iastore, 1) := by decide +kernel
theorem dX0_removeChart_40 : decode cX0_removeChart 40 = .ok (.iinc 2 1, 3) := by decide +kernel
theorem dX0_removeChart_43 : decode cX0_removeChart 43 = .ok (.goto (-39), 3) := by decide +kernel
theorem dX0_removeChart_46 : decode cX0_removeChart 46 = .ok (.aload_n 0, 1) := by decide +kernel
theorem dX0_removeChart_47 : decode cX0_removeChart 47 = .ok (.dup, 1) := by decide +kernel
theorem dX0_removeChart_48 : decode cX0_removeChart 48 = .ok (.getfield 39, 3) := by decide +kernel
theorem dX0_removeChart_51 : decode cX0_removeChart 51 = .ok (.iconst 1, 1) := by decide +kernel
theorem dX0_removeChart_52 : decode cX0_removeChart 52 = .ok (.isub, 1) := by decide +kernel
theorem dX0_removeChart_53 : decode cX0_removeChart 53 = .ok (.putfield 39, 3) := by decide +kernel
theorem dX0_removeChart_56 : decode cX0_removeChart 56 = .ok (.return_, 1) := by decide +kernel
set_option maxRecDepth 20000 in
theorem ggX0_readersOf_X0_tellersOfPair : GoodIn wsX0_readersOf wsX0_tellersOfPair := goodIn_r _ [7, 8, 9, 10, 11, 12, 6, 13, 14, 15, 16, 17, 18, 19, 20, 21, 22, 23, 24, 25, 26, 27, 28, 29, 30, 31, 32, 33, 34, 35, 36] (by decide +kernel) (by decide +kernel)
set_option maxRecDepth 20000 in
theorem gX0_readersOf_X0_tellersOfPair : GoodIn wsX0_readersOf (wsV RX0 59 RX0 yX0_tellersOfPair wsX0_tellersOfPair) := goodIn_app (goodIn_of _ (by decide +kernel)) ggX0_readersOf_X0_tellersOfPair
theorem dX0_readersOf_0 : decode cX0_readersOf 0 = .ok (.aload_n 0, 1) := by decide +kernel
theorem dX0_readersOf_1 : decode cX0_readersOf 1 = .ok (.aload_n 0, 1) := by decide +kernel
theorem dX0_readersOf_2 : decode cX0_readersOf 2 = .ok (.getfield 27, 3) := by decide +kernel
theorem dX0_readersOf_5 : decode cX0_readersOf 5 = .ok (.iload_n 1, 1) := by decide +kernel
theorem dX0_readersOf_6 : decode cX0_readersOf 6 = .ok (.iaload, 1) := by decide +kernel
theorem dX0_readersOf_7 : decode cX0_readersOf 7 = .ok (.aload_n 0, 1) := by decide +kernel
theorem dX0_readersOf_8 : decode cX0_readersOf 8 = .ok (.getfield 30, 3) := by decide +kernel
theorem dX0_readersOf_11 : decode cX0_readersOf 11 = .ok (.iload_n 1, 1) := by decide +kernel
theorem dX0_readersOf_12 : decode cX0_readersOf 12 = .ok (.iaload, 1) := by decide +kernel
theorem dX0_readersOf_13 : decode cX0_readersOf 13 = .ok (.invokevirtual 59, 3) := by decide +kernel
theorem dX0_readersOf_16 : decode cX0_readersOf 16 = .ok (.ireturn, 1) := by decide +kernel
set_option maxRecDepth 20000 in
theorem ggX0_chartsRead_X0_tells : GoodIn wsX0_chartsRead wsX0_tells := goodIn_r _ [8, 9, 10, 11, 12, 13, 7, 14, 15, 16, 17, 18, 19, 20, 21, 22, 23, 24, 25, 26, 27, 28, 29, 30, 31, 32, 33, 34, 35, 36, 37] (by decide +kernel) (by decide +kernel)
set_option maxRecDepth 20000 in
theorem gX0_chartsRead_X0_tells : GoodIn wsX0_chartsRead (wsV RX0 69 RX0 yX0_tells wsX0_tells) := goodIn_app (goodIn_of _ (by decide +kernel)) ggX0_chartsRead_X0_tells
theorem dX0_chartsRead_0 : decode cX0_chartsRead 0 = .ok (.iconst 0, 1) := by decide +kernel
theorem dX0_chartsRead_1 : decode cX0_chartsRead 1 = .ok (.istore_n 2, 1) := by decide +kernel
theorem dX0_chartsRead_2 : decode cX0_chartsRead 2 = .ok (.iconst 0, 1) := by decide +kernel
theorem dX0_chartsRead_3 : decode cX0_chartsRead 3 = .ok (.istore_n 3, 1) := by decide +kernel
theorem dX0_chartsRead_4 : decode cX0_chartsRead 4 = .ok (.iload_n 3, 1) := by decide +kernel
theorem dX0_chartsRead_5 : decode cX0_chartsRead 5 = .ok (.aload_n 0, 1) := by decide +kernel
theorem dX0_chartsRead_6 : decode cX0_chartsRead 6 = .ok (.getfield 39, 3) := by decide +kernel
theorem dX0_chartsRead_9 : decode cX0_chartsRead 9 = .ok (.if_icmp .ge 32, 3) := by decide +kernel
theorem dX0_chartsRead_12 : decode cX0_chartsRead 12 = .ok (.aload_n 0, 1) := by decide +kernel
theorem dX0_chartsRead_13 : decode cX0_chartsRead 13 = .ok (.iload_n 1, 1) := by decide +kernel
theorem dX0_chartsRead_14 : decode cX0_chartsRead 14 = .ok (.aload_n 0, 1) := by decide +kernel
theorem dX0_chartsRead_15 : decode cX0_chartsRead 15 = .ok (.getfield 27, 3) := by decide +kernel
theorem dX0_chartsRead_18 : decode cX0_chartsRead 18 = .ok (.iload_n 3, 1) := by decide +kernel
theorem dX0_chartsRead_19 : decode cX0_chartsRead 19 = .ok (.iaload, 1) := by decide +kernel
theorem dX0_chartsRead_20 : decode cX0_chartsRead 20 = .ok (.aload_n 0, 1) := by decide +kernel
theorem dX0_chartsRead_21 : decode cX0_chartsRead 21 = .ok (.getfield 30, 3) := by decide +kernel
theorem dX0_chartsRead_24 : decode cX0_chartsRead 24 = .ok (.iload_n 3, 1) := by decide +kernel
theorem dX0_chartsRead_25 : decode cX0_chartsRead 25 = .ok (.iaload, 1) := by decide +kernel
theorem dX0_chartsRead_26 : decode cX0_chartsRead 26 = .ok (.invokevirtual 69, 3) := by decide +kernel
theorem dX0_chartsRead_29 : decode cX0_chartsRead 29 = .ok (.ifCond .eq 6, 3) := by decide +kernel
theorem dX0_chartsRead_32 : decode cX0_chartsRead 32 = .ok (.iinc 2 1, 3) := by decide +kernel
theorem dX0_chartsRead_35 : decode cX0_chartsRead 35 = .ok (.iinc 3 1, 3) := by decide +kernel
theorem dX0_chartsRead_38 : decode cX0_chartsRead 38 = .ok (.goto (-34), 3) := by decide +kernel
theorem dX0_chartsRead_41 : decode cX0_chartsRead 41 = .ok (.iload_n 2, 1) := by decide +kernel
theorem dX0_chartsRead_42 : decode cX0_chartsRead 42 = .ok (.ireturn, 1) := by decide +kernel
set_option maxRecDepth 20000 in
theorem ggX0_makeReadable_X0_nearestColour : GoodIn wsX0_makeReadable wsX0_nearestColour := goodIn_r _ [10, 4, 11, 12, 13, 14, 15, 16, 17, 18, 19, 20, 21, 22, 23, 24, 25, 26, 27, 28, 9, 29, 30, 31, 32, 33, 34, 35, 36, 37, 38, 39, 40, 41, 42] (by decide +kernel) (by decide +kernel)
set_option maxRecDepth 20000 in
theorem gX0_makeReadable_X0_nearestColour : GoodIn wsX0_makeReadable (wsV RX0 79 RX0 yX0_nearestColour wsX0_nearestColour) := goodIn_app (goodIn_of _ (by decide +kernel)) ggX0_makeReadable_X0_nearestColour
set_option maxRecDepth 20000 in
theorem ggX0_makeReadable_X1_change : GoodIn wsX0_makeReadable wsX1_change := goodIn_r _ [15, 16, 17, 14, 18, 19, 20, 21, 22, 23, 24, 25] (by decide +kernel) (by decide +kernel)
set_option maxRecDepth 20000 in
theorem gX0_makeReadable_X1_change : GoodIn wsX0_makeReadable (va_wsS RX0 82 yX1_change wsX1_change) := goodIn_app (goodIn_of _ (by decide +kernel)) ggX0_makeReadable_X1_change
theorem dX0_makeReadable_0 : decode cX0_makeReadable 0 = .ok (.aload_n 0, 1) := by decide +kernel
theorem dX0_makeReadable_1 : decode cX0_makeReadable 1 = .ok (.getfield 27, 3) := by decide +kernel
theorem dX0_makeReadable_4 : decode cX0_makeReadable 4 = .ok (.iload_n 1, 1) := by decide +kernel
theorem dX0_makeReadable_5 : decode cX0_makeReadable 5 = .ok (.iaload, 1) := by decide +kernel
theorem dX0_makeReadable_6 : decode cX0_makeReadable 6 = .ok (.istore_n 3, 1) := by decide +kernel
theorem dX0_makeReadable_7 : decode cX0_makeReadable 7 = .ok (.aload_n 0, 1) := by decide +kernel
theorem dX0_makeReadable_8 : decode cX0_makeReadable 8 = .ok (.iload_n 2, 1) := by decide +kernel
theorem dX0_makeReadable_9 : decode cX0_makeReadable 9 = .ok (.iload_n 3, 1) := by decide +kernel
theorem dX0_makeReadable_10 : decode cX0_makeReadable 10 = .ok (.aload_n 0, 1) := by decide +kernel
theorem dX0_makeReadable_11 : decode cX0_makeReadable 11 = .ok (.getfield 30, 3) := by decide +kernel
theorem dX0_makeReadable_14 : decode cX0_makeReadable 14 = .ok (.iload_n 1, 1) := by decide +kernel
theorem dX0_makeReadable_15 : decode cX0_makeReadable 15 = .ok (.iaload, 1) := by decide +kernel
theorem dX0_makeReadable_16 : decode cX0_makeReadable 16 = .ok (.invokevirtual 79, 3) := by decide +kernel
theorem dX0_makeReadable_19 : decode cX0_makeReadable 19 = .ok (.istore 4, 2) := by decide +kernel
theorem dX0_makeReadable_21 : decode cX0_makeReadable 21 = .ok (.iload 4, 2) := by decide +kernel
theorem dX0_makeReadable_23 : decode cX0_makeReadable 23 = .ok (.iconst (-1), 1) := by decide +kernel
theorem dX0_makeReadable_24 : decode cX0_makeReadable 24 = .ok (.if_icmp .ne 15, 3) := by decide +kernel
theorem dX0_makeReadable_27 : decode cX0_makeReadable 27 = .ok (.aload_n 0, 1) := by decide +kernel
theorem dX0_makeReadable_28 : decode cX0_makeReadable 28 = .ok (.dup, 1) := by decide +kernel
theorem dX0_makeReadable_29 : decode cX0_makeReadable 29 = .ok (.getfield 46, 3) := by decide +kernel
theorem dX0_makeReadable_32 : decode cX0_makeReadable 32 = .ok (.iconst 1, 1) := by decide +kernel
theorem dX0_makeReadable_33 : decode cX0_makeReadable 33 = .ok (.iadd, 1) := by decide +kernel
theorem dX0_makeReadable_34 : decode cX0_makeReadable 34 = .ok (.putfield 46, 3) := by decide +kernel
theorem dX0_makeReadable_37 : decode cX0_makeReadable 37 = .ok (.iconst (-1), 1) := by decide +kernel
theorem dX0_makeReadable_38 : decode cX0_makeReadable 38 = .ok (.ireturn, 1) := by decide +kernel
theorem dX0_makeReadable_39 : decode cX0_makeReadable 39 = .ok (.aload_n 0, 1) := by decide +kernel
theorem dX0_makeReadable_40 : decode cX0_makeReadable 40 = .ok (.getfield 9, 3) := by decide +kernel
theorem dX0_makeReadable_43 : decode cX0_makeReadable 43 = .ok (.iload_n 3, 1) := by decide +kernel
theorem dX0_makeReadable_44 : decode cX0_makeReadable 44 = .ok (.iaload, 1) := by decide +kernel
theorem dX0_makeReadable_45 : decode cX0_makeReadable 45 = .ok (.iload 4, 2) := by decide +kernel
theorem dX0_makeReadable_47 : decode cX0_makeReadable 47 = .ok (.invokestatic 82, 3) := by decide +kernel
theorem dX0_makeReadable_50 : decode cX0_makeReadable 50 = .ok (.istore 5, 2) := by decide +kernel
theorem dX0_makeReadable_52 : decode cX0_makeReadable 52 = .ok (.iload 5, 2) := by decide +kernel
theorem dX0_makeReadable_54 : decode cX0_makeReadable 54 = .ok (.ifCond .le 21, 3) := by decide +kernel
theorem dX0_makeReadable_57 : decode cX0_makeReadable 57 = .ok (.aload_n 0, 1) := by decide +kernel
theorem dX0_makeReadable_58 : decode cX0_makeReadable 58 = .ok (.getfield 9, 3) := by decide +kernel
theorem dX0_makeReadable_61 : decode cX0_makeReadable 61 = .ok (.iload_n 3, 1) := by decide +kernel
theorem dX0_makeReadable_62 : decode cX0_makeReadable 62 = .ok (.iload 4, 2) := by decide +kernel
theorem dX0_makeReadable_64 : decode cX0_makeReadable 64 = .ok (.iastore, 1) := by decide +kernel
theorem dX0_makeReadable_65 : decode cX0_makeReadable 65 = .ok (.aload_n 0, 1) := by decide +kernel
theorem dX0_makeReadable_66 : decode cX0_makeReadable 66 = .ok (.dup, 1) := by decide +kernel
theorem dX0_makeReadable_67 : decode cX0_makeReadable 67 = .ok (.getfield 43, 3) := by decide +kernel
theorem dX0_makeReadable_70 : decode cX0_makeReadable 70 = .ok (.iconst 1, 1) := by decide +kernel
theorem dX0_makeReadable_71 : decode cX0_makeReadable 71 = .ok (.iadd, 1) := by decide +kernel
theorem dX0_makeReadable_72 : decode cX0_makeReadable 72 = .ok (.putfield 43, 3) := by decide +kernel
theorem dX0_makeReadable_75 : decode cX0_makeReadable 75 = .ok (.iload 5, 2) := by decide +kernel
theorem dX0_makeReadable_77 : decode cX0_makeReadable 77 = .ok (.ireturn, 1) := by decide +kernel
set_option maxRecDepth 20000 in
theorem ggX0_nearestColour_X1_change : GoodIn wsX0_nearestColour wsX1_change := goodIn_r _ [6, 7, 8, 5, 9, 10, 11, 12, 13, 14, 15, 16] (by decide +kernel) (by decide +kernel)
set_option maxRecDepth 20000 in
theorem gX0_nearestColour_X1_change : GoodIn wsX0_nearestColour (va_wsS RX0 82 yX1_change wsX1_change) := goodIn_app (goodIn_of _ (by decide +kernel)) ggX0_nearestColour_X1_change
set_option maxRecDepth 20000 in
theorem ggX0_nearestColour_X0_tellsColours : GoodIn wsX0_nearestColour wsX0_tellsColours := goodIn_r _ [21, 22, 23, 24, 8, 5, 9, 10, 11, 12, 13, 14, 15, 16, 25, 26, 27, 28, 29, 30, 31, 32, 33, 34] (by decide +kernel) (by decide +kernel)
set_option maxRecDepth 20000 in
theorem gX0_nearestColour_X0_tellsColours : GoodIn wsX0_nearestColour (wsV RX0 49 RX0 yX0_tellsColours wsX0_tellsColours) := goodIn_app (goodIn_of _ (by decide +kernel)) ggX0_nearestColour_X0_tellsColours
theorem dX0_nearestColour_0 : decode cX0_nearestColour 0 = .ok (.iconst (-1), 1) := by decide +kernel
theorem dX0_nearestColour_1 : decode cX0_nearestColour 1 = .ok (.istore 4, 2) := by decide +kernel
theorem dX0_nearestColour_3 : decode cX0_nearestColour 3 = .ok (.bipush 28, 2) := by decide +kernel
theorem dX0_nearestColour_5 : decode cX0_nearestColour 5 = .ok (.istore 5, 2) := by decide +kernel
theorem dX0_nearestColour_7 : decode cX0_nearestColour 7 = .ok (.iconst 0, 1) := by decide +kernel
theorem dX0_nearestColour_8 : decode cX0_nearestColour 8 = .ok (.istore 6, 2) := by decide +kernel
theorem dX0_nearestColour_10 : decode cX0_nearestColour 10 = .ok (.iload 6, 2) := by decide +kernel
theorem dX0_nearestColour_12 : decode cX0_nearestColour 12 = .ok (.sipush 1000, 3) := by decide +kernel
theorem dX0_nearestColour_15 : decode cX0_nearestColour 15 = .ok (.if_icmp .ge 59, 3) := by decide +kernel
theorem dX0_nearestColour_18 : decode cX0_nearestColour 18 = .ok (.aload_n 0, 1) := by decide +kernel
theorem dX0_nearestColour_19 : decode cX0_nearestColour 19 = .ok (.getfield 9, 3) := by decide +kernel
theorem dX0_nearestColour_22 : decode cX0_nearestColour 22 = .ok (.iload_n 2, 1) := by decide +kernel
theorem dX0_nearestColour_23 : decode cX0_nearestColour 23 = .ok (.iaload, 1) := by decide +kernel
theorem dX0_nearestColour_24 : decode cX0_nearestColour 24 = .ok (.iload 6, 2) := by decide +kernel
theorem dX0_nearestColour_26 : decode cX0_nearestColour 26 = .ok (.invokestatic 82, 3) := by decide +kernel
theorem dX0_nearestColour_29 : decode cX0_nearestColour 29 = .ok (.istore 7, 2) := by decide +kernel
theorem dX0_nearestColour_31 : decode cX0_nearestColour 31 = .ok (.iload 7, 2) := by decide +kernel
theorem dX0_nearestColour_33 : decode cX0_nearestColour 33 = .ok (.iload 5, 2) := by decide +kernel
theorem dX0_nearestColour_35 : decode cX0_nearestColour 35 = .ok (.if_icmp .ge 33, 3) := by decide +kernel
theorem dX0_nearestColour_38 : decode cX0_nearestColour 38 = .ok (.aload_n 0, 1) := by decide +kernel
theorem dX0_nearestColour_39 : decode cX0_nearestColour 39 = .ok (.iload_n 1, 1) := by decide +kernel
theorem dX0_nearestColour_40 : decode cX0_nearestColour 40 = .ok (.aload_n 0, 1) := by decide +kernel
theorem dX0_nearestColour_41 : decode cX0_nearestColour 41 = .ok (.getfield 24, 3) := by decide +kernel
theorem dX0_nearestColour_44 : decode cX0_nearestColour 44 = .ok (.iload_n 1, 1) := by decide +kernel
theorem dX0_nearestColour_45 : decode cX0_nearestColour 45 = .ok (.iaload, 1) := by decide +kernel
theorem dX0_nearestColour_46 : decode cX0_nearestColour 46 = .ok (.iload 6, 2) := by decide +kernel
theorem dX0_nearestColour_48 : decode cX0_nearestColour 48 = .ok (.aload_n 0, 1) := by decide +kernel
theorem dX0_nearestColour_49 : decode cX0_nearestColour 49 = .ok (.getfield 9, 3) := by decide +kernel
theorem dX0_nearestColour_52 : decode cX0_nearestColour 52 = .ok (.iload_n 3, 1) := by decide +kernel
theorem dX0_nearestColour_53 : decode cX0_nearestColour 53 = .ok (.iaload, 1) := by decide +kernel
theorem dX0_nearestColour_54 : decode cX0_nearestColour 54 = .ok (.invokevirtual 49, 3) := by decide +kernel
theorem dX0_nearestColour_57 : decode cX0_nearestColour 57 = .ok (.ifCond .eq 11, 3) := by decide +kernel
theorem dX0_nearestColour_60 : decode cX0_nearestColour 60 = .ok (.iload 6, 2) := by decide +kernel
theorem dX0_nearestColour_62 : decode cX0_nearestColour 62 = .ok (.istore 4, 2) := by decide +kernel
theorem dX0_nearestColour_64 : decode cX0_nearestColour 64 = .ok (.iload 7, 2) := by decide +kernel
theorem dX0_nearestColour_66 : decode cX0_nearestColour 66 = .ok (.istore 5, 2) := by decide +kernel
theorem dX0_nearestColour_68 : decode cX0_nearestColour 68 = .ok (.iinc 6 1, 3) := by decide +kernel
theorem dX0_nearestColour_71 : decode cX0_nearestColour 71 = .ok (.goto (-61), 3) := by decide +kernel
theorem dX0_nearestColour_74 : decode cX0_nearestColour 74 = .ok (.iload 4, 2) := by decide +kernel
theorem dX0_nearestColour_76 : decode cX0_nearestColour 76 = .ok (.ireturn, 1) := by decide +kernel
theorem dX1_partOf_0 : decode cX1_partOf 0 = .ok (.iload_n 1, 1) := by decide +kernel
theorem dX1_partOf_1 : decode cX1_partOf 1 = .ok (.lookupswitch 40 #[(0, 27), (1, 32)], 27) := by decide +kernel
theorem dX1_partOf_28 : decode cX1_partOf 28 = .ok (.iload_n 0, 1) := by decide +kernel
theorem dX1_partOf_29 : decode cX1_partOf 29 = .ok (.bipush 100, 2) := by decide +kernel
theorem dX1_partOf_31 : decode cX1_partOf 31 = .ok (.idiv, 1) := by decide +kernel
theorem dX1_partOf_32 : decode cX1_partOf 32 = .ok (.ireturn, 1) := by decide +kernel
theorem dX1_partOf_33 : decode cX1_partOf 33 = .ok (.iload_n 0, 1) := by decide +kernel
theorem dX1_partOf_34 : decode cX1_partOf 34 = .ok (.bipush 10, 2) := by decide +kernel
theorem dX1_partOf_36 : decode cX1_partOf 36 = .ok (.idiv, 1) := by decide +kernel
theorem dX1_partOf_37 : decode cX1_partOf 37 = .ok (.bipush 10, 2) := by decide +kernel
theorem dX1_partOf_39 : decode cX1_partOf 39 = .ok (.irem, 1) := by decide +kernel
theorem dX1_partOf_40 : decode cX1_partOf 40 = .ok (.ireturn, 1) := by decide +kernel
theorem dX1_partOf_41 : decode cX1_partOf 41 = .ok (.iload_n 0, 1) := by decide +kernel
theorem dX1_partOf_42 : decode cX1_partOf 42 = .ok (.bipush 10, 2) := by decide +kernel
theorem dX1_partOf_44 : decode cX1_partOf 44 = .ok (.irem, 1) := by decide +kernel
theorem dX1_partOf_45 : decode cX1_partOf 45 = .ok (.ireturn, 1) := by decide +kernel
set_option maxRecDepth 20000 in
theorem ggX1_withPart_X1_partOf : GoodIn wsX1_withPart wsX1_partOf := goodIn_r _ [4] (by decide +kernel) (by decide +kernel)
set_option maxRecDepth 20000 in
theorem gX1_withPart_X1_partOf : GoodIn wsX1_withPart (va_wsS RX1 7 yX1_partOf wsX1_partOf) := goodIn_app (goodIn_of _ (by decide +kernel)) ggX1_withPart_X1_partOf
theorem dX1_withPart_0 : decode cX1_withPart 0 = .ok (.iload_n 1, 1) := by decide +kernel
theorem dX1_withPart_1 : decode cX1_withPart 1 = .ok (.ifCond .ne 8, 3) := by decide +kernel
theorem dX1_withPart_4 : decode cX1_withPart 4 = .ok (.bipush 100, 2) := by decide +kernel
theorem dX1_withPart_6 : decode cX1_withPart 6 = .ok (.goto 14, 3) := by decide +kernel
theorem dX1_withPart_9 : decode cX1_withPart 9 = .ok (.iload_n 1, 1) := by decide +kernel
theorem dX1_withPart_10 : decode cX1_withPart 10 = .ok (.iconst 1, 1) := by decide +kernel
theorem dX1_withPart_11 : decode cX1_withPart 11 = .ok (.if_icmp .ne 8, 3) := by decide +kernel
theorem dX1_withPart_14 : decode cX1_withPart 14 = .ok (.bipush 10, 2) := by decide +kernel
theorem dX1_withPart_16 : decode cX1_withPart 16 = .ok (.goto 4, 3) := by decide +kernel
theorem dX1_withPart_19 : decode cX1_withPart 19 = .ok (.iconst 1, 1) := by decide +kernel
theorem dX1_withPart_20 : decode cX1_withPart 20 = .ok (.istore_n 3, 1) := by decide +kernel
theorem dX1_withPart_21 : decode cX1_withPart 21 = .ok (.iload_n 0, 1) := by decide +kernel
theorem dX1_withPart_22 : decode cX1_withPart 22 = .ok (.iload_n 2, 1) := by decide +kernel
theorem dX1_withPart_23 : decode cX1_withPart 23 = .ok (.iload_n 0, 1) := by decide +kernel
theorem dX1_withPart_24 : decode cX1_withPart 24 = .ok (.iload_n 1, 1) := by decide +kernel
theorem dX1_withPart_25 : decode cX1_withPart 25 = .ok (.invokestatic 7, 3) := by decide +kernel
theorem dX1_withPart_28 : decode cX1_withPart 28 = .ok (.isub, 1) := by decide +kernel
theorem dX1_withPart_29 : decode cX1_withPart 29 = .ok (.iload_n 3, 1) := by decide +kernel
theorem dX1_withPart_30 : decode cX1_withPart 30 = .ok (.imul, 1) := by decide +kernel
theorem dX1_withPart_31 : decode cX1_withPart 31 = .ok (.iadd, 1) := by decide +kernel
theorem dX1_withPart_32 : decode cX1_withPart 32 = .ok (.ireturn, 1) := by decide +kernel
theorem dX1_seenAs_0 : decode cX1_seenAs 0 = .ok (.iload_n 1, 1) := by decide +kernel
theorem dX1_seenAs_1 : decode cX1_seenAs 1 = .ok (.bipush 100, 2) := by decide +kernel
theorem dX1_seenAs_3 : decode cX1_seenAs 3 = .ok (.idiv, 1) := by decide +kernel
theorem dX1_seenAs_4 : decode cX1_seenAs 4 = .ok (.istore_n 2, 1) := by decide +kernel
theorem dX1_seenAs_5 : decode cX1_seenAs 5 = .ok (.iload_n 1, 1) := by decide +kernel
theorem dX1_seenAs_6 : decode cX1_seenAs 6 = .ok (.bipush 10, 2) := by decide +kernel
theorem dX1_seenAs_8 : decode cX1_seenAs 8 = .ok (.idiv, 1) := by decide +kernel
theorem dX1_seenAs_9 : decode cX1_seenAs 9 = .ok (.bipush 10, 2) := by decide +kernel
theorem dX1_seenAs_11 : decode cX1_seenAs 11 = .ok (.irem, 1) := by decide +kernel
theorem dX1_seenAs_12 : decode cX1_seenAs 12 = .ok (.istore_n 3, 1) := by decide +kernel
theorem dX1_seenAs_13 : decode cX1_seenAs 13 = .ok (.iload_n 1, 1) := by decide +kernel
theorem dX1_seenAs_14 : decode cX1_seenAs 14 = .ok (.bipush 10, 2) := by decide +kernel
theorem dX1_seenAs_16 : decode cX1_seenAs 16 = .ok (.irem, 1) := by decide +kernel
theorem dX1_seenAs_17 : decode cX1_seenAs 17 = .ok (.istore 4, 2) := by decide +kernel
theorem dX1_seenAs_19 : decode cX1_seenAs 19 = .ok (.iload_n 0, 1) := by decide +kernel
theorem dX1_seenAs_20 : decode cX1_seenAs 20 = .ok (.tableswitch 62 1 3 #[28, 40, 50], 28) := by decide +kernel
theorem dX1_seenAs_48 : decode cX1_seenAs 48 = .ok (.bipush 110, 2) := by decide +kernel
theorem dX1_seenAs_50 : decode cX1_seenAs 50 = .ok (.iload_n 2, 1) := by decide +kernel
theorem dX1_seenAs_51 : decode cX1_seenAs 51 = .ok (.iload_n 3, 1) := by decide +kernel
theorem dX1_seenAs_52 : decode cX1_seenAs 52 = .ok (.iadd, 1) := by decide +kernel
theorem dX1_seenAs_53 : decode cX1_seenAs 53 = .ok (.iconst 2, 1) := by decide +kernel
theorem dX1_seenAs_54 : decode cX1_seenAs 54 = .ok (.idiv, 1) := by decide +kernel
theorem dX1_seenAs_55 : decode cX1_seenAs 55 = .ok (.imul, 1) := by decide +kernel
theorem dX1_seenAs_56 : decode cX1_seenAs 56 = .ok (.iload 4, 2) := by decide +kernel
theorem dX1_seenAs_58 : decode cX1_seenAs 58 = .ok (.iadd, 1) := by decide +kernel
theorem dX1_seenAs_59 : decode cX1_seenAs 59 = .ok (.ireturn, 1) := by decide +kernel
theorem dX1_seenAs_60 : decode cX1_seenAs 60 = .ok (.bipush 100, 2) := by decide +kernel
theorem dX1_seenAs_62 : decode cX1_seenAs 62 = .ok (.iload_n 2, 1) := by decide +kernel
theorem dX1_seenAs_63 : decode cX1_seenAs 63 = .ok (.imul, 1) := by decide +kernel
theorem dX1_seenAs_64 : decode cX1_seenAs 64 = .ok (.bipush 10, 2) := by decide +kernel
theorem dX1_seenAs_66 : decode cX1_seenAs 66 = .ok (.iload_n 3, 1) := by decide +kernel
theorem dX1_seenAs_67 : decode cX1_seenAs 67 = .ok (.imul, 1) := by decide +kernel
theorem dX1_seenAs_68 : decode cX1_seenAs 68 = .ok (.iadd, 1) := by decide +kernel
theorem dX1_seenAs_69 : decode cX1_seenAs 69 = .ok (.ireturn, 1) := by decide +kernel
theorem dX1_seenAs_70 : decode cX1_seenAs 70 = .ok (.bipush 111, 2) := by decide +kernel
theorem dX1_seenAs_72 : decode cX1_seenAs 72 = .ok (.iload_n 2, 1) := by decide +kernel
theorem dX1_seenAs_73 : decode cX1_seenAs 73 = .ok (.iload_n 3, 1) := by decide +kernel
theorem dX1_seenAs_74 : decode cX1_seenAs 74 = .ok (.iadd, 1) := by decide +kernel
theorem dX1_seenAs_75 : decode cX1_seenAs 75 = .ok (.iload 4, 2) := by decide +kernel
theorem dX1_seenAs_77 : decode cX1_seenAs 77 = .ok (.iadd, 1) := by decide +kernel
theorem dX1_seenAs_78 : decode cX1_seenAs 78 = .ok (.iconst 3, 1) := by decide +kernel
theorem dX1_seenAs_79 : decode cX1_seenAs 79 = .ok (.idiv, 1) := by decide +kernel
theorem dX1_seenAs_80 : decode cX1_seenAs 80 = .ok (.imul, 1) := by decide +kernel
theorem dX1_seenAs_81 : decode cX1_seenAs 81 = .ok (.ireturn, 1) := by decide +kernel
theorem dX1_seenAs_82 : decode cX1_seenAs 82 = .ok (.iload_n 1, 1) := by decide +kernel
theorem dX1_seenAs_83 : decode cX1_seenAs 83 = .ok (.ireturn, 1) := by decide +kernel
set_option maxRecDepth 20000 in
theorem ggX1_distance_X1_seenAs : GoodIn wsX1_distance wsX1_seenAs := goodIn_r _ [8] (by decide +kernel) (by decide +kernel)
set_option maxRecDepth 20000 in
theorem gX1_distance_X1_seenAs : GoodIn wsX1_distance (va_wsS RX1 13 yX1_seenAs wsX1_seenAs) := goodIn_app (goodIn_of _ (by decide +kernel)) ggX1_distance_X1_seenAs
theorem dX1_distance_0 : decode cX1_distance 0 = .ok (.iload_n 0, 1) := by decide +kernel
theorem dX1_distance_1 : decode cX1_distance 1 = .ok (.iload_n 1, 1) := by decide +kernel
theorem dX1_distance_2 : decode cX1_distance 2 = .ok (.invokestatic 13, 3) := by decide +kernel
theorem dX1_distance_5 : decode cX1_distance 5 = .ok (.istore_n 3, 1) := by decide +kernel
theorem dX1_distance_6 : decode cX1_distance 6 = .ok (.iload_n 0, 1) := by decide +kernel
theorem dX1_distance_7 : decode cX1_distance 7 = .ok (.iload_n 2, 1) := by decide +kernel
theorem dX1_distance_8 : decode cX1_distance 8 = .ok (.invokestatic 13, 3) := by decide +kernel
theorem dX1_distance_11 : decode cX1_distance 11 = .ok (.istore 4, 2) := by decide +kernel
theorem dX1_distance_13 : decode cX1_distance 13 = .ok (.iload_n 3, 1) := by decide +kernel
theorem dX1_distance_14 : decode cX1_distance 14 = .ok (.bipush 100, 2) := by decide +kernel
theorem dX1_distance_16 : decode cX1_distance 16 = .ok (.idiv, 1) := by decide +kernel
theorem dX1_distance_17 : decode cX1_distance 17 = .ok (.iload 4, 2) := by decide +kernel
theorem dX1_distance_19 : decode cX1_distance 19 = .ok (.bipush 100, 2) := by decide +kernel
theorem dX1_distance_21 : decode cX1_distance 21 = .ok (.idiv, 1) := by decide +kernel
theorem dX1_distance_22 : decode cX1_distance 22 = .ok (.isub, 1) := by decide +kernel
theorem dX1_distance_23 : decode cX1_distance 23 = .ok (.invokestatic 16, 3) := by decide +kernel
theorem dX1_distance_26 : decode cX1_distance 26 = .ok (.iload_n 3, 1) := by decide +kernel
theorem dX1_distance_27 : decode cX1_distance 27 = .ok (.bipush 10, 2) := by decide +kernel
theorem dX1_distance_29 : decode cX1_distance 29 = .ok (.idiv, 1) := by decide +kernel
theorem dX1_distance_30 : decode cX1_distance 30 = .ok (.bipush 10, 2) := by decide +kernel
theorem dX1_distance_32 : decode cX1_distance 32 = .ok (.irem, 1) := by decide +kernel
theorem dX1_distance_33 : decode cX1_distance 33 = .ok (.iload 4, 2) := by decide +kernel
theorem dX1_distance_35 : decode cX1_distance 35 = .ok (.bipush 10, 2) := by decide +kernel
theorem dX1_distance_37 : decode cX1_distance 37 = .ok (.idiv, 1) := by decide +kernel
theorem dX1_distance_38 : decode cX1_distance 38 = .ok (.bipush 10, 2) := by decide +kernel
theorem dX1_distance_40 : decode cX1_distance 40 = .ok (.irem, 1) := by decide +kernel
theorem dX1_distance_41 : decode cX1_distance 41 = .ok (.isub, 1) := by decide +kernel
theorem dX1_distance_42 : decode cX1_distance 42 = .ok (.invokestatic 16, 3) := by decide +kernel
theorem dX1_distance_45 : decode cX1_distance 45 = .ok (.iadd, 1) := by decide +kernel
theorem dX1_distance_46 : decode cX1_distance 46 = .ok (.iload_n 3, 1) := by decide +kernel
theorem dX1_distance_47 : decode cX1_distance 47 = .ok (.bipush 10, 2) := by decide +kernel
theorem dX1_distance_49 : decode cX1_distance 49 = .ok (.irem, 1) := by decide +kernel
theorem dX1_distance_50 : decode cX1_distance 50 = .ok (.iload 4, 2) := by decide +kernel
theorem dX1_distance_52 : decode cX1_distance 52 = .ok (.bipush 10, 2) := by decide +kernel
theorem dX1_distance_54 : decode cX1_distance 54 = .ok (.irem, 1) := by decide +kernel
theorem dX1_distance_55 : decode cX1_distance 55 = .ok (.isub, 1) := by decide +kernel
theorem dX1_distance_56 : decode cX1_distance 56 = .ok (.invokestatic 16, 3) := by decide +kernel
theorem dX1_distance_59 : decode cX1_distance 59 = .ok (.iadd, 1) := by decide +kernel
theorem dX1_distance_60 : decode cX1_distance 60 = .ok (.ireturn, 1) := by decide +kernel
set_option maxRecDepth 20000 in
theorem ggX1_change_X1_distance : GoodIn wsX1_change wsX1_distance := goodIn_r _ [4, 5, 6, 7, 8, 9, 10, 3, 11] (by decide +kernel) (by decide +kernel)
set_option maxRecDepth 20000 in
theorem gX1_change_X1_distance : GoodIn wsX1_change (va_wsS RX1 22 yX1_distance wsX1_distance) := goodIn_app (goodIn_of _ (by decide +kernel)) ggX1_change_X1_distance
theorem dX1_change_0 : decode cX1_change 0 = .ok (.iconst 0, 1) := by decide +kernel
theorem dX1_change_1 : decode cX1_change 1 = .ok (.iload_n 0, 1) := by decide +kernel
theorem dX1_change_2 : decode cX1_change 2 = .ok (.iload_n 1, 1) := by decide +kernel
theorem dX1_change_3 : decode cX1_change 3 = .ok (.invokestatic 22, 3) := by decide +kernel
theorem dX1_change_6 : decode cX1_change 6 = .ok (.ireturn, 1) := by decide +kernel
theorem dX2_init_0 : decode cX2_init 0 = .ok (.aload_n 0, 1) := by decide +kernel
theorem dX2_init_1 : decode cX2_init 1 = .ok (.invokespecial 3, 3) := by decide +kernel
theorem dX2_init_4 : decode cX2_init 4 = .ok (.aload_n 0, 1) := by decide +kernel
theorem dX2_init_5 : decode cX2_init 5 = .ok (.bipush 8, 2) := by decide +kernel
theorem dX2_init_7 : decode cX2_init 7 = .ok (.newarray .int, 2) := by decide +kernel
theorem dX2_init_9 : decode cX2_init 9 = .ok (.putfield 9, 3) := by decide +kernel
theorem dX2_init_12 : decode cX2_init 12 = .ok (.aload_n 0, 1) := by decide +kernel
theorem dX2_init_13 : decode cX2_init 13 = .ok (.sipush 256, 3) := by decide +kernel
theorem dX2_init_16 : decode cX2_init 16 = .ok (.newarray .boolean, 2) := by decide +kernel
theorem dX2_init_18 : decode cX2_init 18 = .ok (.putfield 15, 3) := by decide +kernel
theorem dX2_init_21 : decode cX2_init 21 = .ok (.aload_n 0, 1) := by decide +kernel
theorem dX2_init_22 : decode cX2_init 22 = .ok (.sipush 256, 3) := by decide +kernel
theorem dX2_init_25 : decode cX2_init 25 = .ok (.newarray .int, 2) := by decide +kernel
theorem dX2_init_27 : decode cX2_init 27 = .ok (.putfield 19, 3) := by decide +kernel
theorem dX2_init_30 : decode cX2_init 30 = .ok (.aload_n 0, 1) := by decide +kernel
theorem dX2_init_31 : decode cX2_init 31 = .ok (.bipush 8, 2) := by decide +kernel
theorem dX2_init_33 : decode cX2_init 33 = .ok (.newarray .int, 2) := by decide +kernel
theorem dX2_init_35 : decode cX2_init 35 = .ok (.putfield 22, 3) := by decide +kernel
theorem dX2_init_38 : decode cX2_init 38 = .ok (.return_, 1) := by decide +kernel
set_option maxRecDepth 20000 in
theorem ggX2_look_X0_tells : GoodIn wsX2_look wsX0_tells := goodIn_r _ [6, 7, 8, 9, 10, 11, 5, 12, 13, 14, 15, 16, 17, 18, 19, 20, 21, 22, 23, 24, 25, 30, 31, 32, 33, 34, 35, 36, 37, 38, 39] (by decide +kernel) (by decide +kernel)
set_option maxRecDepth 20000 in
theorem gX2_look_X0_tells : GoodIn wsX2_look (wsV RX2 25 RX0 yX0_tells wsX0_tells) := goodIn_app (goodIn_of _ (by decide +kernel)) ggX2_look_X0_tells
theorem dX2_look_0 : decode cX2_look 0 = .ok (.iconst 0, 1) := by decide +kernel
theorem dX2_look_1 : decode cX2_look 1 = .ok (.istore_n 3, 1) := by decide +kernel
theorem dX2_look_2 : decode cX2_look 2 = .ok (.iload_n 3, 1) := by decide +kernel
theorem dX2_look_3 : decode cX2_look 3 = .ok (.bipush 8, 2) := by decide +kernel
theorem dX2_look_5 : decode cX2_look 5 = .ok (.if_icmp .ge 56, 3) := by decide +kernel
theorem dX2_look_8 : decode cX2_look 8 = .ok (.aload_n 0, 1) := by decide +kernel
theorem dX2_look_9 : decode cX2_look 9 = .ok (.getfield 9, 3) := by decide +kernel
theorem dX2_look_12 : decode cX2_look 12 = .ok (.iload_n 3, 1) := by decide +kernel
theorem dX2_look_13 : decode cX2_look 13 = .ok (.iconst 0, 1) := by decide +kernel
theorem dX2_look_14 : decode cX2_look 14 = .ok (.iastore, 1) := by decide +kernel
theorem dX2_look_15 : decode cX2_look 15 = .ok (.iconst 0, 1) := by decide +kernel
theorem dX2_look_16 : decode cX2_look 16 = .ok (.istore 4, 2) := by decide +kernel
theorem dX2_look_18 : decode cX2_look 18 = .ok (.iload 4, 2) := by decide +kernel
theorem dX2_look_20 : decode cX2_look 20 = .ok (.bipush 8, 2) := by decide +kernel
theorem dX2_look_22 : decode cX2_look 22 = .ok (.if_icmp .ge 33, 3) := by decide +kernel
theorem dX2_look_25 : decode cX2_look 25 = .ok (.aload_n 1, 1) := by decide +kernel
theorem dX2_look_26 : decode cX2_look 26 = .ok (.iload_n 2, 1) := by decide +kernel
theorem dX2_look_27 : decode cX2_look 27 = .ok (.iload_n 3, 1) := by decide +kernel
theorem dX2_look_28 : decode cX2_look 28 = .ok (.iload 4, 2) := by decide +kernel
theorem dX2_look_30 : decode cX2_look 30 = .ok (.invokevirtual 25, 3) := by decide +kernel
theorem dX2_look_33 : decode cX2_look 33 = .ok (.ifCond .eq 16, 3) := by decide +kernel
theorem dX2_look_36 : decode cX2_look 36 = .ok (.aload_n 0, 1) := by decide +kernel
theorem dX2_look_37 : decode cX2_look 37 = .ok (.getfield 9, 3) := by decide +kernel
theorem dX2_look_40 : decode cX2_look 40 = .ok (.iload_n 3, 1) := by decide +kernel
theorem dX2_look_41 : decode cX2_look 41 = .ok (.dup2, 1) := by decide +kernel
theorem dX2_look_42 : decode cX2_look 42 = .ok (.iaload, 1) := by decide +kernel
theorem dX2_look_43 : decode cX2_look 43 = .ok (.iconst 1, 1) := by decide +kernel
theorem dX2_look_44 : decode cX2_look 44 = .ok (.iload 4, 2) := by decide +kernel
theorem dX2_look_46 : decode cX2_look 46 = .ok (.ishl, 1) := by decide +kernel
theorem dX2_look_47 : decode cX2_look 47 = .ok (.ior, 1) := by decide +kernel
theorem dX2_look_48 : decode cX2_look 48 = .ok (.iastore, 1) := by decide +kernel
theorem dX2_look_49 : decode cX2_look 49 = .ok (.iinc 4 1, 3) := by decide +kernel
theorem dX2_look_52 : decode cX2_look 52 = .ok (.goto (-34), 3) := by decide +kernel
theorem dX2_look_55 : decode cX2_look 55 = .ok (.iinc 3 1, 3) := by decide +kernel
theorem dX2_look_58 : decode cX2_look 58 = .ok (.goto (-56), 3) := by decide +kernel
theorem dX2_look_61 : decode cX2_look 61 = .ok (.return_, 1) := by decide +kernel
set_option maxRecDepth 20000 in
theorem ggX2_fewestBySets_X2_needOf : GoodIn wsX2_fewestBySets wsX2_needOf := goodIn_r _ [8, 1, 2, 9, 10, 11, 12, 13, 14, 15, 16] (by decide +kernel) (by decide +kernel)
set_option maxRecDepth 20000 in
theorem gX2_fewestBySets_X2_needOf : GoodIn wsX2_fewestBySets (wsV RX2 31 RX2 yX2_needOf wsX2_needOf) := goodIn_app (goodIn_of _ (by decide +kernel)) ggX2_fewestBySets_X2_needOf
theorem dX2_fewestBySets_0 : decode cX2_fewestBySets 0 = .ok (.aload_n 0, 1) := by decide +kernel
theorem dX2_fewestBySets_1 : decode cX2_fewestBySets 1 = .ok (.getfield 15, 3) := by decide +kernel
theorem dX2_fewestBySets_4 : decode cX2_fewestBySets 4 = .ok (.iconst 0, 1) := by decide +kernel
theorem dX2_fewestBySets_5 : decode cX2_fewestBySets 5 = .ok (.iconst 1, 1) := by decide +kernel
theorem dX2_fewestBySets_6 : decode cX2_fewestBySets 6 = .ok (.bastore, 1) := by decide +kernel
theorem dX2_fewestBySets_7 : decode cX2_fewestBySets 7 = .ok (.aload_n 0, 1) := by decide +kernel
theorem dX2_fewestBySets_8 : decode cX2_fewestBySets 8 = .ok (.getfield 19, 3) := by decide +kernel
theorem dX2_fewestBySets_11 : decode cX2_fewestBySets 11 = .ok (.iconst 0, 1) := by decide +kernel
theorem dX2_fewestBySets_12 : decode cX2_fewestBySets 12 = .ok (.iconst 0, 1) := by decide +kernel
theorem dX2_fewestBySets_13 : decode cX2_fewestBySets 13 = .ok (.iastore, 1) := by decide +kernel
theorem dX2_fewestBySets_14 : decode cX2_fewestBySets 14 = .ok (.iconst 0, 1) := by decide +kernel
theorem dX2_fewestBySets_15 : decode cX2_fewestBySets 15 = .ok (.istore_n 1, 1) := by decide +kernel
theorem dX2_fewestBySets_16 : decode cX2_fewestBySets 16 = .ok (.iload_n 1, 1) := by decide +kernel
theorem dX2_fewestBySets_17 : decode cX2_fewestBySets 17 = .ok (.bipush 8, 2) := by decide +kernel
theorem dX2_fewestBySets_19 : decode cX2_fewestBySets 19 = .ok (.if_icmp .ge 73, 3) := by decide +kernel
theorem dX2_fewestBySets_22 : decode cX2_fewestBySets 22 = .ok (.iconst 1, 1) := by decide +kernel
theorem dX2_fewestBySets_23 : decode cX2_fewestBySets 23 = .ok (.iload_n 1, 1) := by decide +kernel
theorem dX2_fewestBySets_24 : decode cX2_fewestBySets 24 = .ok (.ishl, 1) := by decide +kernel
theorem dX2_fewestBySets_25 : decode cX2_fewestBySets 25 = .ok (.istore_n 2, 1) := by decide +kernel
theorem dX2_fewestBySets_26 : decode cX2_fewestBySets 26 = .ok (.iconst 0, 1) := by decide +kernel
theorem dX2_fewestBySets_27 : decode cX2_fewestBySets 27 = .ok (.istore_n 3, 1) := by decide +kernel
theorem dX2_fewestBySets_28 : decode cX2_fewestBySets 28 = .ok (.iload_n 3, 1) := by decide +kernel
theorem dX2_fewestBySets_29 : decode cX2_fewestBySets 29 = .ok (.iload_n 2, 1) := by decide +kernel
theorem dX2_fewestBySets_30 : decode cX2_fewestBySets 30 = .ok (.if_icmp .ge 56, 3) := by decide +kernel
theorem dX2_fewestBySets_33 : decode cX2_fewestBySets 33 = .ok (.aload_n 0, 1) := by decide +kernel
theorem dX2_fewestBySets_34 : decode cX2_fewestBySets 34 = .ok (.getfield 15, 3) := by decide +kernel
theorem dX2_fewestBySets_37 : decode cX2_fewestBySets 37 = .ok (.iload_n 2, 1) := by decide +kernel
theorem dX2_fewestBySets_38 : decode cX2_fewestBySets 38 = .ok (.iload_n 3, 1) := by decide +kernel
theorem dX2_fewestBySets_39 : decode cX2_fewestBySets 39 = .ok (.ior, 1) := by decide +kernel
theorem dX2_fewestBySets_40 : decode cX2_fewestBySets 40 = .ok (.aload_n 0, 1) := by decide +kernel
theorem dX2_fewestBySets_41 : decode cX2_fewestBySets 41 = .ok (.getfield 15, 3) := by decide +kernel
theorem dX2_fewestBySets_44 : decode cX2_fewestBySets 44 = .ok (.iload_n 3, 1) := by decide +kernel
theorem dX2_fewestBySets_45 : decode cX2_fewestBySets 45 = .ok (.baload, 1) := by decide +kernel
theorem dX2_fewestBySets_46 : decode cX2_fewestBySets 46 = .ok (.ifCond .eq 18, 3) := by decide +kernel
theorem dX2_fewestBySets_49 : decode cX2_fewestBySets 49 = .ok (.aload_n 0, 1) := by decide +kernel
theorem dX2_fewestBySets_50 : decode cX2_fewestBySets 50 = .ok (.getfield 9, 3) := by decide +kernel
theorem dX2_fewestBySets_53 : decode cX2_fewestBySets 53 = .ok (.iload_n 1, 1) := by decide +kernel
theorem dX2_fewestBySets_54 : decode cX2_fewestBySets 54 = .ok (.iaload, 1) := by decide +kernel
theorem dX2_fewestBySets_55 : decode cX2_fewestBySets 55 = .ok (.iload_n 3, 1) := by decide +kernel
theorem dX2_fewestBySets_56 : decode cX2_fewestBySets 56 = .ok (.iand, 1) := by decide +kernel
theorem dX2_fewestBySets_57 : decode cX2_fewestBySets 57 = .ok (.ifCond .ne 7, 3) := by decide +kernel
theorem dX2_fewestBySets_60 : decode cX2_fewestBySets 60 = .ok (.iconst 1, 1) := by decide +kernel
theorem dX2_fewestBySets_61 : decode cX2_fewestBySets 61 = .ok (.goto 4, 3) := by decide +kernel
theorem dX2_fewestBySets_64 : decode cX2_fewestBySets 64 = .ok (.iconst 0, 1) := by decide +kernel
theorem dX2_fewestBySets_65 : decode cX2_fewestBySets 65 = .ok (.bastore, 1) := by decide +kernel
theorem dX2_fewestBySets_66 : decode cX2_fewestBySets 66 = .ok (.aload_n 0, 1) := by decide +kernel
theorem dX2_fewestBySets_67 : decode cX2_fewestBySets 67 = .ok (.getfield 19, 3) := by decide +kernel
theorem dX2_fewestBySets_70 : decode cX2_fewestBySets 70 = .ok (.iload_n 2, 1) := by decide +kernel
theorem dX2_fewestBySets_71 : decode cX2_fewestBySets 71 = .ok (.iload_n 3, 1) := by decide +kernel
theorem dX2_fewestBySets_72 : decode cX2_fewestBySets 72 = .ok (.ior, 1) := by decide +kernel
theorem dX2_fewestBySets_73 : decode cX2_fewestBySets 73 = .ok (.aload_n 0, 1) := by decide +kernel
theorem dX2_fewestBySets_74 : decode cX2_fewestBySets 74 = .ok (.iload_n 2, 1) := by decide +kernel
theorem dX2_fewestBySets_75 : decode cX2_fewestBySets 75 = .ok (.iload_n 3, 1) := by decide +kernel
theorem dX2_fewestBySets_76 : decode cX2_fewestBySets 76 = .ok (.invokevirtual 31, 3) := by decide +kernel
theorem dX2_fewestBySets_79 : decode cX2_fewestBySets 79 = .ok (.iastore, 1) := by decide +kernel
theorem dX2_fewestBySets_80 : decode cX2_fewestBySets 80 = .ok (.iinc 3 1, 3) := by decide +kernel
theorem dX2_fewestBySets_83 : decode cX2_fewestBySets 83 = .ok (.goto (-55), 3) := by decide +kernel
theorem dX2_fewestBySets_86 : decode cX2_fewestBySets 86 = .ok (.iinc 1 1, 3) := by decide +kernel
theorem dX2_fewestBySets_89 : decode cX2_fewestBySets 89 = .ok (.goto (-73), 3) := by decide +kernel
theorem dX2_fewestBySets_92 : decode cX2_fewestBySets 92 = .ok (.aload_n 0, 1) := by decide +kernel
theorem dX2_fewestBySets_93 : decode cX2_fewestBySets 93 = .ok (.getfield 19, 3) := by decide +kernel
theorem dX2_fewestBySets_96 : decode cX2_fewestBySets 96 = .ok (.sipush 255, 3) := by decide +kernel
theorem dX2_fewestBySets_99 : decode cX2_fewestBySets 99 = .ok (.iaload, 1) := by decide +kernel
theorem dX2_fewestBySets_100 : decode cX2_fewestBySets 100 = .ok (.ireturn, 1) := by decide +kernel
theorem dX2_needOf_0 : decode cX2_needOf 0 = .ok (.bipush 8, 2) := by decide +kernel
theorem dX2_needOf_2 : decode cX2_needOf 2 = .ok (.istore_n 3, 1) := by decide +kernel
theorem dX2_needOf_3 : decode cX2_needOf 3 = .ok (.iconst 0, 1) := by decide +kernel
theorem dX2_needOf_4 : decode cX2_needOf 4 = .ok (.istore 4, 2) := by decide +kernel
theorem dX2_needOf_6 : decode cX2_needOf 6 = .ok (.iload 4, 2) := by decide +kernel
theorem dX2_needOf_8 : decode cX2_needOf 8 = .ok (.iload_n 2, 1) := by decide +kernel
theorem dX2_needOf_9 : decode cX2_needOf 9 = .ok (.if_icmp .gt 46, 3) := by decide +kernel
theorem dX2_needOf_12 : decode cX2_needOf 12 = .ok (.iload 4, 2) := by decide +kernel
theorem dX2_needOf_14 : decode cX2_needOf 14 = .ok (.iload_n 2, 1) := by decide +kernel
theorem dX2_needOf_15 : decode cX2_needOf 15 = .ok (.iand, 1) := by decide +kernel
theorem dX2_needOf_16 : decode cX2_needOf 16 = .ok (.iload 4, 2) := by decide +kernel
theorem dX2_needOf_18 : decode cX2_needOf 18 = .ok (.if_icmp .ne 31, 3) := by decide +kernel
theorem dX2_needOf_21 : decode cX2_needOf 21 = .ok (.aload_n 0, 1) := by decide +kernel
theorem dX2_needOf_22 : decode cX2_needOf 22 = .ok (.getfield 15, 3) := by decide +kernel
theorem dX2_needOf_25 : decode cX2_needOf 25 = .ok (.iload_n 1, 1) := by decide +kernel
theorem dX2_needOf_26 : decode cX2_needOf 26 = .ok (.iload 4, 2) := by decide +kernel
theorem dX2_needOf_28 : decode cX2_needOf 28 = .ok (.ior, 1) := by decide +kernel
theorem dX2_needOf_29 : decode cX2_needOf 29 = .ok (.baload, 1) := by decide +kernel
theorem dX2_needOf_30 : decode cX2_needOf 30 = .ok (.ifCond .eq 19, 3) := by decide +kernel
theorem dX2_needOf_33 : decode cX2_needOf 33 = .ok (.iload_n 3, 1) := by decide +kernel
theorem dX2_needOf_34 : decode cX2_needOf 34 = .ok (.aload_n 0, 1) := by decide +kernel
theorem dX2_needOf_35 : decode cX2_needOf 35 = .ok (.getfield 19, 3) := by decide +kernel
theorem dX2_needOf_38 : decode cX2_needOf 38 = .ok (.iload_n 2, 1) := by decide +kernel
theorem dX2_needOf_39 : decode cX2_needOf 39 = .ok (.iload 4, 2) := by decide +kernel
theorem dX2_needOf_41 : decode cX2_needOf 41 = .ok (.ixor, 1) := by decide +kernel
theorem dX2_needOf_42 : decode cX2_needOf 42 = .ok (.iaload, 1) := by decide +kernel
theorem dX2_needOf_43 : decode cX2_needOf 43 = .ok (.iconst 1, 1) := by decide +kernel
theorem dX2_needOf_44 : decode cX2_needOf 44 = .ok (.iadd, 1) := by decide +kernel
theorem dX2_needOf_45 : decode cX2_needOf 45 = .ok (.invokestatic 35, 3) := by decide +kernel
theorem dX2_needOf_48 : decode cX2_needOf 48 = .ok (.istore_n 3, 1) := by decide +kernel
theorem dX2_needOf_49 : decode cX2_needOf 49 = .ok (.iinc 4 1, 3) := by decide +kernel
theorem dX2_needOf_52 : decode cX2_needOf 52 = .ok (.goto (-46), 3) := by decide +kernel
theorem dX2_needOf_55 : decode cX2_needOf 55 = .ok (.iload_n 3, 1) := by decide +kernel
theorem dX2_needOf_56 : decode cX2_needOf 56 = .ok (.ireturn, 1) := by decide +kernel
set_option maxRecDepth 20000 in
theorem ggX2_fewestByTrying_X2_fewestFrom : GoodIn wsX2_fewestByTrying wsX2_fewestFrom := goodIn_r _ [6, 3, 4, 5] (by decide +kernel) (by decide +kernel)
set_option maxRecDepth 20000 in
theorem gX2_fewestByTrying_X2_fewestFrom : GoodIn wsX2_fewestByTrying (va_wsS RX2 40 yX2_fewestFrom wsX2_fewestFrom) := goodIn_app (goodIn_of _ (by decide +kernel)) ggX2_fewestByTrying_X2_fewestFrom
theorem dX2_fewestByTrying_0 : decode cX2_fewestByTrying 0 = .ok (.aload_n 0, 1) := by decide +kernel
theorem dX2_fewestByTrying_1 : decode cX2_fewestByTrying 1 = .ok (.getfield 9, 3) := by decide +kernel
theorem dX2_fewestByTrying_4 : decode cX2_fewestByTrying 4 = .ok (.aload_n 0, 1) := by decide +kernel
theorem dX2_fewestByTrying_5 : decode cX2_fewestByTrying 5 = .ok (.getfield 22, 3) := by decide +kernel
theorem dX2_fewestByTrying_8 : decode cX2_fewestByTrying 8 = .ok (.iconst 0, 1) := by decide +kernel
theorem dX2_fewestByTrying_9 : decode cX2_fewestByTrying 9 = .ok (.iconst 0, 1) := by decide +kernel
theorem dX2_fewestByTrying_10 : decode cX2_fewestByTrying 10 = .ok (.bipush 8, 2) := by decide +kernel
theorem dX2_fewestByTrying_12 : decode cX2_fewestByTrying 12 = .ok (.invokestatic 40, 3) := by decide +kernel
theorem dX2_fewestByTrying_15 : decode cX2_fewestByTrying 15 = .ok (.ireturn, 1) := by decide +kernel
set_option maxRecDepth 20000 in
theorem ggX2_fewestFrom_X2_fewestFrom : GoodIn wsX2_fewestFrom wsX2_fewestFrom := goodIn_r _ [0, 1, 2, 3] (by decide +kernel) (by decide +kernel)
set_option maxRecDepth 20000 in
theorem gX2_fewestFrom_X2_fewestFrom : GoodIn wsX2_fewestFrom (va_wsS RX2 40 yX2_fewestFrom wsX2_fewestFrom) := goodIn_app (goodIn_of _ (by decide +kernel)) ggX2_fewestFrom_X2_fewestFrom
theorem dX2_fewestFrom_0 : decode cX2_fewestFrom 0 = .ok (.iload_n 3, 1) := by decide +kernel
theorem dX2_fewestFrom_1 : decode cX2_fewestFrom 1 = .ok (.iload 4, 2) := by decide +kernel
theorem dX2_fewestFrom_3 : decode cX2_fewestFrom 3 = .ok (.if_icmp .lt 6, 3) := by decide +kernel
theorem dX2_fewestFrom_6 : decode cX2_fewestFrom 6 = .ok (.iload 4, 2) := by decide +kernel
theorem dX2_fewestFrom_8 : decode cX2_fewestFrom 8 = .ok (.ireturn, 1) := by decide +kernel
theorem dX2_fewestFrom_9 : decode cX2_fewestFrom 9 = .ok (.iload_n 2, 1) := by decide +kernel
theorem dX2_fewestFrom_10 : decode cX2_fewestFrom 10 = .ok (.bipush 8, 2) := by decide +kernel
theorem dX2_fewestFrom_12 : decode cX2_fewestFrom 12 = .ok (.if_icmp .lt 5, 3) := by decide +kernel
theorem dX2_fewestFrom_15 : decode cX2_fewestFrom 15 = .ok (.iload_n 3, 1) := by decide +kernel
theorem dX2_fewestFrom_16 : decode cX2_fewestFrom 16 = .ok (.ireturn, 1) := by decide +kernel
theorem dX2_fewestFrom_17 : decode cX2_fewestFrom 17 = .ok (.iload 4, 2) := by decide +kernel
theorem dX2_fewestFrom_19 : decode cX2_fewestFrom 19 = .ok (.istore 5, 2) := by decide +kernel
theorem dX2_fewestFrom_21 : decode cX2_fewestFrom 21 = .ok (.iconst 0, 1) := by decide +kernel
theorem dX2_fewestFrom_22 : decode cX2_fewestFrom 22 = .ok (.istore 6, 2) := by decide +kernel
theorem dX2_fewestFrom_24 : decode cX2_fewestFrom 24 = .ok (.iload 6, 2) := by decide +kernel
theorem dX2_fewestFrom_26 : decode cX2_fewestFrom 26 = .ok (.iload_n 3, 1) := by decide +kernel
theorem dX2_fewestFrom_27 : decode cX2_fewestFrom 27 = .ok (.if_icmp .gt 78, 3) := by decide +kernel
theorem dX2_fewestFrom_30 : decode cX2_fewestFrom 30 = .ok (.iload 6, 2) := by decide +kernel
theorem dX2_fewestFrom_32 : decode cX2_fewestFrom 32 = .ok (.bipush 8, 2) := by decide +kernel
theorem dX2_fewestFrom_34 : decode cX2_fewestFrom 34 = .ok (.if_icmp .ge 71, 3) := by decide +kernel
theorem dX2_fewestFrom_37 : decode cX2_fewestFrom 37 = .ok (.aload_n 1, 1) := by decide +kernel
theorem dX2_fewestFrom_38 : decode cX2_fewestFrom 38 = .ok (.iload 6, 2) := by decide +kernel
theorem dX2_fewestFrom_40 : decode cX2_fewestFrom 40 = .ok (.iaload, 1) := by decide +kernel
theorem dX2_fewestFrom_41 : decode cX2_fewestFrom 41 = .ok (.aload_n 0, 1) := by decide +kernel
theorem dX2_fewestFrom_42 : decode cX2_fewestFrom 42 = .ok (.iload_n 2, 1) := by decide +kernel
theorem dX2_fewestFrom_43 : decode cX2_fewestFrom 43 = .ok (.iaload, 1) := by decide +kernel
theorem dX2_fewestFrom_44 : decode cX2_fewestFrom 44 = .ok (.iand, 1) := by decide +kernel
theorem dX2_fewestFrom_45 : decode cX2_fewestFrom 45 = .ok (.ifCond .ne 54, 3) := by decide +kernel
theorem dX2_fewestFrom_48 : decode cX2_fewestFrom 48 = .ok (.aload_n 1, 1) := by decide +kernel
theorem dX2_fewestFrom_49 : decode cX2_fewestFrom 49 = .ok (.iload 6, 2) := by decide +kernel
theorem dX2_fewestFrom_51 : decode cX2_fewestFrom 51 = .ok (.dup2, 1) := by decide +kernel
theorem dX2_fewestFrom_52 : decode cX2_fewestFrom 52 = .ok (.iaload, 1) := by decide +kernel
theorem dX2_fewestFrom_53 : decode cX2_fewestFrom 53 = .ok (.iconst 1, 1) := by decide +kernel
theorem dX2_fewestFrom_54 : decode cX2_fewestFrom 54 = .ok (.iload_n 2, 1) := by decide +kernel
theorem dX2_fewestFrom_55 : decode cX2_fewestFrom 55 = .ok (.ishl, 1) := by decide +kernel
theorem dX2_fewestFrom_56 : decode cX2_fewestFrom 56 = .ok (.ior, 1) := by decide +kernel
theorem dX2_fewestFrom_57 : decode cX2_fewestFrom 57 = .ok (.iastore, 1) := by decide +kernel
theorem dX2_fewestFrom_58 : decode cX2_fewestFrom 58 = .ok (.iload 6, 2) := by decide +kernel
theorem dX2_fewestFrom_60 : decode cX2_fewestFrom 60 = .ok (.iload_n 3, 1) := by decide +kernel
theorem dX2_fewestFrom_61 : decode cX2_fewestFrom 61 = .ok (.if_icmp .ne 9, 3) := by decide +kernel
theorem dX2_fewestFrom_64 : decode cX2_fewestFrom 64 = .ok (.iload_n 3, 1) := by decide +kernel
theorem dX2_fewestFrom_65 : decode cX2_fewestFrom 65 = .ok (.iconst 1, 1) := by decide +kernel
theorem dX2_fewestFrom_66 : decode cX2_fewestFrom 66 = .ok (.iadd, 1) := by decide +kernel
theorem dX2_fewestFrom_67 : decode cX2_fewestFrom 67 = .ok (.goto 4, 3) := by decide +kernel
theorem dX2_fewestFrom_70 : decode cX2_fewestFrom 70 = .ok (.iload_n 3, 1) := by decide +kernel
end
section
theorem dX2_fewestFrom_71 : decode cX2_fewestFrom 71 = .ok (.istore 7, 2) := by decide +kernel
theorem dX2_fewestFrom_73 : decode cX2_fewestFrom 73 = .ok (.aload_n 0, 1) := by decide +kernel
theorem dX2_fewestFrom_74 : decode cX2_fewestFrom 74 = .ok (.aload_n 1, 1) := by decide +kernel
theorem dX2_fewestFrom_75 : decode cX2_fewestFrom 75 = .ok (.iload_n 2, 1) := by decide +kernel
theorem dX2_fewestFrom_76 : decode cX2_fewestFrom 76 = .ok (.iconst 1, 1) := by decide +kernel
theorem dX2_fewestFrom_77 : decode cX2_fewestFrom 77 = .ok (.iadd, 1) := by decide +kernel
theorem dX2_fewestFrom_78 : decode cX2_fewestFrom 78 = .ok (.iload 7, 2) := by decide +kernel
theorem dX2_fewestFrom_80 : decode cX2_fewestFrom 80 = .ok (.iload 5, 2) := by decide +kernel
theorem dX2_fewestFrom_82 : decode cX2_fewestFrom 82 = .ok (.invokestatic 40, 3) := by decide +kernel
theorem dX2_fewestFrom_85 : decode cX2_fewestFrom 85 = .ok (.istore 5, 2) := by decide +kernel
theorem dX2_fewestFrom_87 : decode cX2_fewestFrom 87 = .ok (.aload_n 1, 1) := by decide +kernel
theorem dX2_fewestFrom_88 : decode cX2_fewestFrom 88 = .ok (.iload 6, 2) := by decide +kernel
theorem dX2_fewestFrom_90 : decode cX2_fewestFrom 90 = .ok (.dup2, 1) := by decide +kernel
theorem dX2_fewestFrom_91 : decode cX2_fewestFrom 91 = .ok (.iaload, 1) := by decide +kernel
theorem dX2_fewestFrom_92 : decode cX2_fewestFrom 92 = .ok (.iconst 1, 1) := by decide +kernel
theorem dX2_fewestFrom_93 : decode cX2_fewestFrom 93 = .ok (.iload_n 2, 1) := by decide +kernel
theorem dX2_fewestFrom_94 : decode cX2_fewestFrom 94 = .ok (.ishl, 1) := by decide +kernel
theorem dX2_fewestFrom_95 : decode cX2_fewestFrom 95 = .ok (.iconst (-1), 1) := by decide +kernel
theorem dX2_fewestFrom_96 : decode cX2_fewestFrom 96 = .ok (.ixor, 1) := by decide +kernel
theorem dX2_fewestFrom_97 : decode cX2_fewestFrom 97 = .ok (.iand, 1) := by decide +kernel
theorem dX2_fewestFrom_98 : decode cX2_fewestFrom 98 = .ok (.iastore, 1) := by decide +kernel
theorem dX2_fewestFrom_99 : decode cX2_fewestFrom 99 = .ok (.iinc 6 1, 3) := by decide +kernel
theorem dX2_fewestFrom_102 : decode cX2_fewestFrom 102 = .ok (.goto (-78), 3) := by decide +kernel
theorem dX2_fewestFrom_105 : decode cX2_fewestFrom 105 = .ok (.iload 5, 2) := by decide +kernel
theorem dX2_fewestFrom_107 : decode cX2_fewestFrom 107 = .ok (.ireturn, 1) := by decide +kernel
set_option maxRecDepth 20000 in
theorem ggX3_init_X0_init : GoodIn wsX3_init wsX0_init := goodIn_r _ [13, 14, 2, 3, 15, 16, 17, 18, 19, 20, 21, 22, 27, 28, 29, 30, 31, 32, 33, 34, 35, 36] (by decide +kernel) (by decide +kernel)
set_option maxRecDepth 20000 in
theorem gX3_init_X0_init : GoodIn wsX3_init (wsX0_init) := ggX3_init_X0_init
theorem dX3_init_0 : decode cX3_init 0 = .ok (.aload_n 0, 1) := by decide +kernel
theorem dX3_init_1 : decode cX3_init 1 = .ok (.invokespecial 3, 3) := by decide +kernel
theorem dX3_init_4 : decode cX3_init 4 = .ok (.aload_n 0, 1) := by decide +kernel
theorem dX3_init_5 : decode cX3_init 5 = .ok (.iconst 2, 1) := by decide +kernel
theorem dX3_init_6 : decode cX3_init 6 = .ok (.anewarray 9, 3) := by decide +kernel
theorem dX3_init_9 : decode cX3_init 9 = .ok (.putfield 11, 3) := by decide +kernel
theorem dX3_init_12 : decode cX3_init 12 = .ok (.aload_n 0, 1) := by decide +kernel
theorem dX3_init_13 : decode cX3_init 13 = .ok (.iconst 2, 1) := by decide +kernel
theorem dX3_init_14 : decode cX3_init 14 = .ok (.newarray .boolean, 2) := by decide +kernel
theorem dX3_init_16 : decode cX3_init 16 = .ok (.putfield 17, 3) := by decide +kernel
theorem dX3_init_19 : decode cX3_init 19 = .ok (.aload_n 0, 1) := by decide +kernel
theorem dX3_init_20 : decode cX3_init 20 = .ok (.bipush 6, 2) := by decide +kernel
theorem dX3_init_22 : decode cX3_init 22 = .ok (.anewarray 9, 3) := by decide +kernel
theorem dX3_init_25 : decode cX3_init 25 = .ok (.putfield 21, 3) := by decide +kernel
theorem dX3_init_28 : decode cX3_init 28 = .ok (.iconst 0, 1) := by decide +kernel
theorem dX3_init_29 : decode cX3_init 29 = .ok (.istore_n 1, 1) := by decide +kernel
theorem dX3_init_30 : decode cX3_init 30 = .ok (.iload_n 1, 1) := by decide +kernel
theorem dX3_init_31 : decode cX3_init 31 = .ok (.iconst 2, 1) := by decide +kernel
theorem dX3_init_32 : decode cX3_init 32 = .ok (.if_icmp .ge 22, 3) := by decide +kernel
theorem dX3_init_35 : decode cX3_init 35 = .ok (.aload_n 0, 1) := by decide +kernel
theorem dX3_init_36 : decode cX3_init 36 = .ok (.getfield 11, 3) := by decide +kernel
theorem dX3_init_39 : decode cX3_init 39 = .ok (.iload_n 1, 1) := by decide +kernel
theorem dX3_init_40 : decode cX3_init 40 = .ok (.new 9, 3) := by decide +kernel
theorem dX3_init_43 : decode cX3_init 43 = .ok (.dup, 1) := by decide +kernel
theorem dX3_init_44 : decode cX3_init 44 = .ok (.invokespecial 24, 3) := by decide +kernel
theorem dX3_init_47 : decode cX3_init 47 = .ok (.aastore, 1) := by decide +kernel
theorem dX3_init_48 : decode cX3_init 48 = .ok (.iinc 1 1, 3) := by decide +kernel
theorem dX3_init_51 : decode cX3_init 51 = .ok (.goto (-21), 3) := by decide +kernel
theorem dX3_init_54 : decode cX3_init 54 = .ok (.iconst 0, 1) := by decide +kernel
theorem dX3_init_55 : decode cX3_init 55 = .ok (.istore_n 1, 1) := by decide +kernel
theorem dX3_init_56 : decode cX3_init 56 = .ok (.iload_n 1, 1) := by decide +kernel
theorem dX3_init_57 : decode cX3_init 57 = .ok (.bipush 6, 2) := by decide +kernel
theorem dX3_init_59 : decode cX3_init 59 = .ok (.if_icmp .ge 22, 3) := by decide +kernel
theorem dX3_init_62 : decode cX3_init 62 = .ok (.aload_n 0, 1) := by decide +kernel
theorem dX3_init_63 : decode cX3_init 63 = .ok (.getfield 21, 3) := by decide +kernel
theorem dX3_init_66 : decode cX3_init 66 = .ok (.iload_n 1, 1) := by decide +kernel
theorem dX3_init_67 : decode cX3_init 67 = .ok (.new 9, 3) := by decide +kernel
theorem dX3_init_70 : decode cX3_init 70 = .ok (.dup, 1) := by decide +kernel
theorem dX3_init_71 : decode cX3_init 71 = .ok (.invokespecial 24, 3) := by decide +kernel
theorem dX3_init_74 : decode cX3_init 74 = .ok (.aastore, 1) := by decide +kernel
theorem dX3_init_75 : decode cX3_init 75 = .ok (.iinc 1 1, 3) := by decide +kernel
theorem dX3_init_78 : decode cX3_init 78 = .ok (.goto (-22), 3) := by decide +kernel
theorem dX3_init_81 : decode cX3_init 81 = .ok (.return_, 1) := by decide +kernel
set_option maxRecDepth 20000 in
theorem ggX3_save_X3_dropOldest : GoodIn wsX3_save wsX3_dropOldest := goodIn_r _ [7, 2, 1, 27, 28, 29, 30] (by decide +kernel) (by decide +kernel)
set_option maxRecDepth 20000 in
theorem gX3_save_X3_dropOldest : GoodIn wsX3_save (wsV RX3 29 RX3 yX3_dropOldest wsX3_dropOldest) := goodIn_app (goodIn_of _ (by decide +kernel)) ggX3_save_X3_dropOldest
set_option maxRecDepth 20000 in
theorem ggX3_save_X0_copyFrom : GoodIn wsX3_save wsX0_copyFrom := goodIn_r _ [12, 13, 14, 15, 16, 17, 18, 19, 20, 21, 22, 23, 24, 25, 26, 31, 32, 33, 34, 35, 36, 37, 38, 39, 40] (by decide +kernel) (by decide +kernel)
set_option maxRecDepth 20000 in
theorem gX3_save_X0_copyFrom : GoodIn wsX3_save (wsV RX3 32 RX0 yX0_copyFrom wsX0_copyFrom) := goodIn_app (goodIn_of _ (by decide +kernel)) ggX3_save_X0_copyFrom
theorem dX3_save_0 : decode cX3_save 0 = .ok (.aload_n 0, 1) := by decide +kernel
theorem dX3_save_1 : decode cX3_save 1 = .ok (.getfield 25, 3) := by decide +kernel
theorem dX3_save_4 : decode cX3_save 4 = .ok (.bipush 6, 2) := by decide +kernel
theorem dX3_save_6 : decode cX3_save 6 = .ok (.if_icmp .lt 7, 3) := by decide +kernel
theorem dX3_save_9 : decode cX3_save 9 = .ok (.aload_n 0, 1) := by decide +kernel
theorem dX3_save_10 : decode cX3_save 10 = .ok (.invokevirtual 29, 3) := by decide +kernel
theorem dX3_save_13 : decode cX3_save 13 = .ok (.aload_n 0, 1) := by decide +kernel
theorem dX3_save_14 : decode cX3_save 14 = .ok (.getfield 21, 3) := by decide +kernel
theorem dX3_save_17 : decode cX3_save 17 = .ok (.aload_n 0, 1) := by decide +kernel
theorem dX3_save_18 : decode cX3_save 18 = .ok (.getfield 25, 3) := by decide +kernel
theorem dX3_save_21 : decode cX3_save 21 = .ok (.aaload, 1) := by decide +kernel
theorem dX3_save_22 : decode cX3_save 22 = .ok (.aload_n 1, 1) := by decide +kernel
theorem dX3_save_23 : decode cX3_save 23 = .ok (.invokevirtual 32, 3) := by decide +kernel
theorem dX3_save_26 : decode cX3_save 26 = .ok (.aload_n 0, 1) := by decide +kernel
theorem dX3_save_27 : decode cX3_save 27 = .ok (.dup, 1) := by decide +kernel
theorem dX3_save_28 : decode cX3_save 28 = .ok (.getfield 25, 3) := by decide +kernel
theorem dX3_save_31 : decode cX3_save 31 = .ok (.iconst 1, 1) := by decide +kernel
theorem dX3_save_32 : decode cX3_save 32 = .ok (.iadd, 1) := by decide +kernel
theorem dX3_save_33 : decode cX3_save 33 = .ok (.putfield 25, 3) := by decide +kernel
theorem dX3_save_36 : decode cX3_save 36 = .ok (.return_, 1) := by decide +kernel
theorem dX3_dropOldest_0 : decode cX3_dropOldest 0 = .ok (.aload_n 0, 1) := by decide +kernel
theorem dX3_dropOldest_1 : decode cX3_dropOldest 1 = .ok (.getfield 21, 3) := by decide +kernel
theorem dX3_dropOldest_4 : decode cX3_dropOldest 4 = .ok (.iconst 0, 1) := by decide +kernel
theorem dX3_dropOldest_5 : decode cX3_dropOldest 5 = .ok (.aaload, 1) := by decide +kernel
theorem dX3_dropOldest_6 : decode cX3_dropOldest 6 = .ok (.astore_n 1, 1) := by decide +kernel
theorem dX3_dropOldest_7 : decode cX3_dropOldest 7 = .ok (.iconst 1, 1) := by decide +kernel
theorem dX3_dropOldest_8 : decode cX3_dropOldest 8 = .ok (.istore_n 2, 1) := by decide +kernel
theorem dX3_dropOldest_9 : decode cX3_dropOldest 9 = .ok (.iload_n 2, 1) := by decide +kernel
theorem dX3_dropOldest_10 : decode cX3_dropOldest 10 = .ok (.bipush 6, 2) := by decide +kernel
theorem dX3_dropOldest_12 : decode cX3_dropOldest 12 = .ok (.if_icmp .ge 23, 3) := by decide +kernel
theorem dX3_dropOldest_15 : decode cX3_dropOldest 15 = .ok (.aload_n 0, 1) := by decide +kernel
theorem dX3_dropOldest_16 : decode cX3_dropOldest 16 = .ok (.getfield 21, 3) := by decide +kernel
theorem dX3_dropOldest_19 : decode cX3_dropOldest 19 = .ok (.iload_n 2, 1) := by decide +kernel
theorem dX3_dropOldest_20 : decode cX3_dropOldest 20 = .ok (.iconst 1, 1) := by decide +kernel
theorem dX3_dropOldest_21 : decode cX3_dropOldest 21 = .ok (.isub, 1) := by decide +kernel
theorem dX3_dropOldest_22 : decode cX3_dropOldest 22 = .ok (.aload_n 0, 1) := by decide +kernel
theorem dX3_dropOldest_23 : decode cX3_dropOldest 23 = .ok (.getfield 21, 3) := by decide +kernel
theorem dX3_dropOldest_26 : decode cX3_dropOldest 26 = .ok (.iload_n 2, 1) := by decide +kernel
theorem dX3_dropOldest_27 : decode cX3_dropOldest 27 = .ok (.aaload, 1) := by decide +kernel
theorem dX3_dropOldest_28 : decode cX3_dropOldest 28 = .ok (.aastore, 1) := by decide +kernel
theorem dX3_dropOldest_29 : decode cX3_dropOldest 29 = .ok (.iinc 2 1, 3) := by decide +kernel
theorem dX3_dropOldest_32 : decode cX3_dropOldest 32 = .ok (.goto (-23), 3) := by decide +kernel
theorem dX3_dropOldest_35 : decode cX3_dropOldest 35 = .ok (.aload_n 0, 1) := by decide +kernel
theorem dX3_dropOldest_36 : decode cX3_dropOldest 36 = .ok (.getfield 21, 3) := by decide +kernel
theorem dX3_dropOldest_39 : decode cX3_dropOldest 39 = .ok (.iconst 5, 1) := by decide +kernel
theorem dX3_dropOldest_40 : decode cX3_dropOldest 40 = .ok (.aload_n 1, 1) := by decide +kernel
theorem dX3_dropOldest_41 : decode cX3_dropOldest 41 = .ok (.aastore, 1) := by decide +kernel
theorem dX3_dropOldest_42 : decode cX3_dropOldest 42 = .ok (.aload_n 0, 1) := by decide +kernel
theorem dX3_dropOldest_43 : decode cX3_dropOldest 43 = .ok (.iconst 5, 1) := by decide +kernel
theorem dX3_dropOldest_44 : decode cX3_dropOldest 44 = .ok (.putfield 25, 3) := by decide +kernel
theorem dX3_dropOldest_47 : decode cX3_dropOldest 47 = .ok (.return_, 1) := by decide +kernel
set_option maxRecDepth 20000 in
theorem ggX3_restore_X0_copyFrom : GoodIn wsX3_restore wsX0_copyFrom := goodIn_r _ [7, 8, 9, 10, 11, 12, 13, 14, 15, 16, 17, 18, 19, 20, 21, 26, 27, 28, 29, 30, 31, 32, 33, 34, 35] (by decide +kernel) (by decide +kernel)
set_option maxRecDepth 20000 in
theorem gX3_restore_X0_copyFrom : GoodIn wsX3_restore (wsV RX3 32 RX0 yX0_copyFrom wsX0_copyFrom) := goodIn_app (goodIn_of _ (by decide +kernel)) ggX3_restore_X0_copyFrom
theorem dX3_restore_0 : decode cX3_restore 0 = .ok (.aload_n 0, 1) := by decide +kernel
theorem dX3_restore_1 : decode cX3_restore 1 = .ok (.getfield 25, 3) := by decide +kernel
theorem dX3_restore_4 : decode cX3_restore 4 = .ok (.ifCond .le 26, 3) := by decide +kernel
theorem dX3_restore_7 : decode cX3_restore 7 = .ok (.aload_n 0, 1) := by decide +kernel
theorem dX3_restore_8 : decode cX3_restore 8 = .ok (.dup, 1) := by decide +kernel
theorem dX3_restore_9 : decode cX3_restore 9 = .ok (.getfield 25, 3) := by decide +kernel
theorem dX3_restore_12 : decode cX3_restore 12 = .ok (.iconst 1, 1) := by decide +kernel
theorem dX3_restore_13 : decode cX3_restore 13 = .ok (.isub, 1) := by decide +kernel
theorem dX3_restore_14 : decode cX3_restore 14 = .ok (.putfield 25, 3) := by decide +kernel
theorem dX3_restore_17 : decode cX3_restore 17 = .ok (.aload_n 1, 1) := by decide +kernel
theorem dX3_restore_18 : decode cX3_restore 18 = .ok (.aload_n 0, 1) := by decide +kernel
theorem dX3_restore_19 : decode cX3_restore 19 = .ok (.getfield 21, 3) := by decide +kernel
theorem dX3_restore_22 : decode cX3_restore 22 = .ok (.aload_n 0, 1) := by decide +kernel
theorem dX3_restore_23 : decode cX3_restore 23 = .ok (.getfield 25, 3) := by decide +kernel
theorem dX3_restore_26 : decode cX3_restore 26 = .ok (.aaload, 1) := by decide +kernel
theorem dX3_restore_27 : decode cX3_restore 27 = .ok (.invokevirtual 32, 3) := by decide +kernel
theorem dX3_restore_30 : decode cX3_restore 30 = .ok (.return_, 1) := by decide +kernel
theorem dX4_init_0 : decode cX4_init 0 = .ok (.aload_n 0, 1) := by decide +kernel
theorem dX4_init_1 : decode cX4_init 1 = .ok (.invokespecial 3, 3) := by decide +kernel
theorem dX4_init_4 : decode cX4_init 4 = .ok (.aload_n 0, 1) := by decide +kernel
theorem dX4_init_5 : decode cX4_init 5 = .ok (.bipush 60, 2) := by decide +kernel
theorem dX4_init_7 : decode cX4_init 7 = .ok (.newarray .int, 2) := by decide +kernel
theorem dX4_init_9 : decode cX4_init 9 = .ok (.putfield 9, 3) := by decide +kernel
theorem dX4_init_12 : decode cX4_init 12 = .ok (.return_, 1) := by decide +kernel
theorem dX4_isFull_0 : decode cX4_isFull 0 = .ok (.aload_n 0, 1) := by decide +kernel
theorem dX4_isFull_1 : decode cX4_isFull 1 = .ok (.getfield 15, 3) := by decide +kernel
theorem dX4_isFull_4 : decode cX4_isFull 4 = .ok (.bipush 60, 2) := by decide +kernel
theorem dX4_isFull_6 : decode cX4_isFull 6 = .ok (.if_icmp .lt 7, 3) := by decide +kernel
theorem dX4_isFull_9 : decode cX4_isFull 9 = .ok (.iconst 1, 1) := by decide +kernel
theorem dX4_isFull_10 : decode cX4_isFull 10 = .ok (.goto 4, 3) := by decide +kernel
theorem dX4_isFull_13 : decode cX4_isFull 13 = .ok (.iconst 0, 1) := by decide +kernel
theorem dX4_isFull_14 : decode cX4_isFull 14 = .ok (.ireturn, 1) := by decide +kernel
theorem dX4_add_0 : decode cX4_add 0 = .ok (.aload_n 0, 1) := by decide +kernel
theorem dX4_add_1 : decode cX4_add 1 = .ok (.getfield 15, 3) := by decide +kernel
theorem dX4_add_4 : decode cX4_add 4 = .ok (.bipush 60, 2) := by decide +kernel
theorem dX4_add_6 : decode cX4_add 6 = .ok (.if_icmp .ge 23, 3) := by decide +kernel
theorem dX4_add_9 : decode cX4_add 9 = .ok (.aload_n 0, 1) := by decide +kernel
theorem dX4_add_10 : decode cX4_add 10 = .ok (.getfield 9, 3) := by decide +kernel
theorem dX4_add_13 : decode cX4_add 13 = .ok (.aload_n 0, 1) := by decide +kernel
theorem dX4_add_14 : decode cX4_add 14 = .ok (.getfield 15, 3) := by decide +kernel
theorem dX4_add_17 : decode cX4_add 17 = .ok (.iload_n 1, 1) := by decide +kernel
theorem dX4_add_18 : decode cX4_add 18 = .ok (.iastore, 1) := by decide +kernel
theorem dX4_add_19 : decode cX4_add 19 = .ok (.aload_n 0, 1) := by decide +kernel
theorem dX4_add_20 : decode cX4_add 20 = .ok (.dup, 1) := by decide +kernel
theorem dX4_add_21 : decode cX4_add 21 = .ok (.getfield 15, 3) := by decide +kernel
theorem dX4_add_24 : decode cX4_add 24 = .ok (.iconst 1, 1) := by decide +kernel
theorem dX4_add_25 : decode cX4_add 25 = .ok (.iadd, 1) := by decide +kernel
theorem dX4_add_26 : decode cX4_add 26 = .ok (.putfield 15, 3) := by decide +kernel
theorem dX4_add_29 : decode cX4_add 29 = .ok (.return_, 1) := by decide +kernel
theorem dX4_clear_0 : decode cX4_clear 0 = .ok (.aload_n 0, 1) := by decide +kernel
theorem dX4_clear_1 : decode cX4_clear 1 = .ok (.iconst 0, 1) := by decide +kernel
theorem dX4_clear_2 : decode cX4_clear 2 = .ok (.putfield 15, 3) := by decide +kernel
theorem dX4_clear_5 : decode cX4_clear 5 = .ok (.return_, 1) := by decide +kernel
set_option maxRecDepth 20000 in
theorem ggX4_firstWrong_X4_fits : GoodIn wsX4_firstWrong wsX4_fits := goodIn_r _ [6] (by decide +kernel) (by decide +kernel)
set_option maxRecDepth 20000 in
theorem gX4_firstWrong_X4_fits : GoodIn wsX4_firstWrong (va_wsS RX4 19 yX4_fits wsX4_fits) := goodIn_app (goodIn_of _ (by decide +kernel)) ggX4_firstWrong_X4_fits
theorem dX4_firstWrong_0 : decode cX4_firstWrong 0 = .ok (.iconst 0, 1) := by decide +kernel
theorem dX4_firstWrong_1 : decode cX4_firstWrong 1 = .ok (.istore_n 1, 1) := by decide +kernel
theorem dX4_firstWrong_2 : decode cX4_firstWrong 2 = .ok (.iload_n 1, 1) := by decide +kernel
theorem dX4_firstWrong_3 : decode cX4_firstWrong 3 = .ok (.aload_n 0, 1) := by decide +kernel
theorem dX4_firstWrong_4 : decode cX4_firstWrong 4 = .ok (.getfield 15, 3) := by decide +kernel
theorem dX4_firstWrong_7 : decode cX4_firstWrong 7 = .ok (.if_icmp .ge 33, 3) := by decide +kernel
theorem dX4_firstWrong_10 : decode cX4_firstWrong 10 = .ok (.iload_n 1, 1) := by decide +kernel
theorem dX4_firstWrong_11 : decode cX4_firstWrong 11 = .ok (.bipush 60, 2) := by decide +kernel
theorem dX4_firstWrong_13 : decode cX4_firstWrong 13 = .ok (.if_icmp .ge 27, 3) := by decide +kernel
theorem dX4_firstWrong_16 : decode cX4_firstWrong 16 = .ok (.iload_n 1, 1) := by decide +kernel
theorem dX4_firstWrong_17 : decode cX4_firstWrong 17 = .ok (.bipush 6, 2) := by decide +kernel
theorem dX4_firstWrong_19 : decode cX4_firstWrong 19 = .ok (.irem, 1) := by decide +kernel
theorem dX4_firstWrong_20 : decode cX4_firstWrong 20 = .ok (.aload_n 0, 1) := by decide +kernel
theorem dX4_firstWrong_21 : decode cX4_firstWrong 21 = .ok (.getfield 9, 3) := by decide +kernel
theorem dX4_firstWrong_24 : decode cX4_firstWrong 24 = .ok (.iload_n 1, 1) := by decide +kernel
theorem dX4_firstWrong_25 : decode cX4_firstWrong 25 = .ok (.iaload, 1) := by decide +kernel
theorem dX4_firstWrong_26 : decode cX4_firstWrong 26 = .ok (.invokestatic 19, 3) := by decide +kernel
theorem dX4_firstWrong_29 : decode cX4_firstWrong 29 = .ok (.ifCond .ne 5, 3) := by decide +kernel
theorem dX4_firstWrong_32 : decode cX4_firstWrong 32 = .ok (.iload_n 1, 1) := by decide +kernel
theorem dX4_firstWrong_33 : decode cX4_firstWrong 33 = .ok (.ireturn, 1) := by decide +kernel
theorem dX4_firstWrong_34 : decode cX4_firstWrong 34 = .ok (.iinc 1 1, 3) := by decide +kernel
theorem dX4_firstWrong_37 : decode cX4_firstWrong 37 = .ok (.goto (-35), 3) := by decide +kernel
theorem dX4_firstWrong_40 : decode cX4_firstWrong 40 = .ok (.aload_n 0, 1) := by decide +kernel
theorem dX4_firstWrong_41 : decode cX4_firstWrong 41 = .ok (.getfield 15, 3) := by decide +kernel
theorem dX4_firstWrong_44 : decode cX4_firstWrong 44 = .ok (.ireturn, 1) := by decide +kernel
theorem dX4_fits_0 : decode cX4_fits 0 = .ok (.iload_n 0, 1) := by decide +kernel
theorem dX4_fits_1 : decode cX4_fits 1 = .ok (.lookupswitch 77 #[(0, 35), (1, 53), (5, 65)], 35) := by decide +kernel
theorem dX4_fits_36 : decode cX4_fits 36 = .ok (.iload_n 1, 1) := by decide +kernel
theorem dX4_fits_37 : decode cX4_fits 37 = .ok (.bipush 48, 2) := by decide +kernel
theorem dX4_fits_39 : decode cX4_fits 39 = .ok (.if_icmp .lt 13, 3) := by decide +kernel
theorem dX4_fits_42 : decode cX4_fits 42 = .ok (.iload_n 1, 1) := by decide +kernel
theorem dX4_fits_43 : decode cX4_fits 43 = .ok (.bipush 56, 2) := by decide +kernel
theorem dX4_fits_45 : decode cX4_fits 45 = .ok (.if_icmp .ge 7, 3) := by decide +kernel
theorem dX4_fits_48 : decode cX4_fits 48 = .ok (.iconst 1, 1) := by decide +kernel
theorem dX4_fits_49 : decode cX4_fits 49 = .ok (.goto 4, 3) := by decide +kernel
theorem dX4_fits_52 : decode cX4_fits 52 = .ok (.iconst 0, 1) := by decide +kernel
theorem dX4_fits_53 : decode cX4_fits 53 = .ok (.ireturn, 1) := by decide +kernel
theorem dX4_fits_54 : decode cX4_fits 54 = .ok (.iload_n 1, 1) := by decide +kernel
theorem dX4_fits_55 : decode cX4_fits 55 = .ok (.bipush 61, 2) := by decide +kernel
theorem dX4_fits_57 : decode cX4_fits 57 = .ok (.if_icmp .ne 7, 3) := by decide +kernel
theorem dX4_fits_60 : decode cX4_fits 60 = .ok (.iconst 1, 1) := by decide +kernel
theorem dX4_fits_61 : decode cX4_fits 61 = .ok (.goto 4, 3) := by decide +kernel
theorem dX4_fits_64 : decode cX4_fits 64 = .ok (.iconst 0, 1) := by decide +kernel
theorem dX4_fits_65 : decode cX4_fits 65 = .ok (.ireturn, 1) := by decide +kernel
theorem dX4_fits_66 : decode cX4_fits 66 = .ok (.iload_n 1, 1) := by decide +kernel
theorem dX4_fits_67 : decode cX4_fits 67 = .ok (.bipush 59, 2) := by decide +kernel
theorem dX4_fits_69 : decode cX4_fits 69 = .ok (.if_icmp .ne 7, 3) := by decide +kernel
theorem dX4_fits_72 : decode cX4_fits 72 = .ok (.iconst 1, 1) := by decide +kernel
theorem dX4_fits_73 : decode cX4_fits 73 = .ok (.goto 4, 3) := by decide +kernel
theorem dX4_fits_76 : decode cX4_fits 76 = .ok (.iconst 0, 1) := by decide +kernel
theorem dX4_fits_77 : decode cX4_fits 77 = .ok (.ireturn, 1) := by decide +kernel
theorem dX4_fits_78 : decode cX4_fits 78 = .ok (.iload_n 1, 1) := by decide +kernel
theorem dX4_fits_79 : decode cX4_fits 79 = .ok (.bipush 48, 2) := by decide +kernel
theorem dX4_fits_81 : decode cX4_fits 81 = .ok (.if_icmp .lt 13, 3) := by decide +kernel
theorem dX4_fits_84 : decode cX4_fits 84 = .ok (.iload_n 1, 1) := by decide +kernel
theorem dX4_fits_85 : decode cX4_fits 85 = .ok (.bipush 57, 2) := by decide +kernel
theorem dX4_fits_87 : decode cX4_fits 87 = .ok (.if_icmp .gt 7, 3) := by decide +kernel
theorem dX4_fits_90 : decode cX4_fits 90 = .ok (.iconst 1, 1) := by decide +kernel
theorem dX4_fits_91 : decode cX4_fits 91 = .ok (.goto 4, 3) := by decide +kernel
theorem dX4_fits_94 : decode cX4_fits 94 = .ok (.iconst 0, 1) := by decide +kernel
theorem dX4_fits_95 : decode cX4_fits 95 = .ok (.ireturn, 1) := by decide +kernel
set_option maxRecDepth 20000 in
theorem ggX4_tellsPots_X4_firstWrong : GoodIn wsX4_tellsPots wsX4_firstWrong := goodIn_r _ [6, 1, 7, 8, 9, 5, 10, 11, 12] (by decide +kernel) (by decide +kernel)
set_option maxRecDepth 20000 in
theorem gX4_tellsPots_X4_firstWrong : GoodIn wsX4_tellsPots (wsV RX4 23 RX4 yX4_firstWrong wsX4_firstWrong) := goodIn_app (goodIn_of _ (by decide +kernel)) ggX4_tellsPots_X4_firstWrong
theorem dX4_tellsPots_0 : decode cX4_tellsPots 0 = .ok (.aload_n 0, 1) := by decide +kernel
theorem dX4_tellsPots_1 : decode cX4_tellsPots 1 = .ok (.getfield 15, 3) := by decide +kernel
theorem dX4_tellsPots_4 : decode cX4_tellsPots 4 = .ok (.bipush 6, 2) := by decide +kernel
theorem dX4_tellsPots_6 : decode cX4_tellsPots 6 = .ok (.irem, 1) := by decide +kernel
theorem dX4_tellsPots_7 : decode cX4_tellsPots 7 = .ok (.iconst 5, 1) := by decide +kernel
theorem dX4_tellsPots_8 : decode cX4_tellsPots 8 = .ok (.if_icmp .ne 18, 3) := by decide +kernel
theorem dX4_tellsPots_11 : decode cX4_tellsPots 11 = .ok (.aload_n 0, 1) := by decide +kernel
theorem dX4_tellsPots_12 : decode cX4_tellsPots 12 = .ok (.invokevirtual 23, 3) := by decide +kernel
theorem dX4_tellsPots_15 : decode cX4_tellsPots 15 = .ok (.aload_n 0, 1) := by decide +kernel
theorem dX4_tellsPots_16 : decode cX4_tellsPots 16 = .ok (.getfield 15, 3) := by decide +kernel
theorem dX4_tellsPots_19 : decode cX4_tellsPots 19 = .ok (.if_icmp .ne 7, 3) := by decide +kernel
theorem dX4_tellsPots_22 : decode cX4_tellsPots 22 = .ok (.iconst 1, 1) := by decide +kernel
theorem dX4_tellsPots_23 : decode cX4_tellsPots 23 = .ok (.goto 4, 3) := by decide +kernel
theorem dX4_tellsPots_26 : decode cX4_tellsPots 26 = .ok (.iconst 0, 1) := by decide +kernel
theorem dX4_tellsPots_27 : decode cX4_tellsPots 27 = .ok (.ireturn, 1) := by decide +kernel
theorem dX4_giveColours_0 : decode cX4_giveColours 0 = .ok (.iconst 0, 1) := by decide +kernel
theorem dX4_giveColours_1 : decode cX4_giveColours 1 = .ok (.istore_n 2, 1) := by decide +kernel
theorem dX4_giveColours_2 : decode cX4_giveColours 2 = .ok (.iload_n 2, 1) := by decide +kernel
theorem dX4_giveColours_3 : decode cX4_giveColours 3 = .ok (.iconst 4, 1) := by decide +kernel
theorem dX4_giveColours_4 : decode cX4_giveColours 4 = .ok (.iadd, 1) := by decide +kernel
theorem dX4_giveColours_5 : decode cX4_giveColours 5 = .ok (.aload_n 0, 1) := by decide +kernel
theorem dX4_giveColours_6 : decode cX4_giveColours 6 = .ok (.getfield 15, 3) := by decide +kernel
theorem dX4_giveColours_9 : decode cX4_giveColours 9 = .ok (.if_icmp .ge 84, 3) := by decide +kernel
theorem dX4_giveColours_12 : decode cX4_giveColours 12 = .ok (.iload_n 2, 1) := by decide +kernel
theorem dX4_giveColours_13 : decode cX4_giveColours 13 = .ok (.iconst 4, 1) := by decide +kernel
theorem dX4_giveColours_14 : decode cX4_giveColours 14 = .ok (.iadd, 1) := by decide +kernel
theorem dX4_giveColours_15 : decode cX4_giveColours 15 = .ok (.bipush 60, 2) := by decide +kernel
theorem dX4_giveColours_17 : decode cX4_giveColours 17 = .ok (.if_icmp .ge 76, 3) := by decide +kernel
theorem dX4_giveColours_20 : decode cX4_giveColours 20 = .ok (.aload_n 0, 1) := by decide +kernel
theorem dX4_giveColours_21 : decode cX4_giveColours 21 = .ok (.getfield 9, 3) := by decide +kernel
theorem dX4_giveColours_24 : decode cX4_giveColours 24 = .ok (.iload_n 2, 1) := by decide +kernel
theorem dX4_giveColours_25 : decode cX4_giveColours 25 = .ok (.iaload, 1) := by decide +kernel
theorem dX4_giveColours_26 : decode cX4_giveColours 26 = .ok (.bipush 48, 2) := by decide +kernel
theorem dX4_giveColours_28 : decode cX4_giveColours 28 = .ok (.isub, 1) := by decide +kernel
theorem dX4_giveColours_29 : decode cX4_giveColours 29 = .ok (.istore_n 3, 1) := by decide +kernel
theorem dX4_giveColours_30 : decode cX4_giveColours 30 = .ok (.iload_n 3, 1) := by decide +kernel
theorem dX4_giveColours_31 : decode cX4_giveColours 31 = .ok (.ifCond .lt 56, 3) := by decide +kernel
theorem dX4_giveColours_34 : decode cX4_giveColours 34 = .ok (.iload_n 3, 1) := by decide +kernel
theorem dX4_giveColours_35 : decode cX4_giveColours 35 = .ok (.bipush 8, 2) := by decide +kernel
theorem dX4_giveColours_37 : decode cX4_giveColours 37 = .ok (.if_icmp .ge 50, 3) := by decide +kernel
theorem dX4_giveColours_40 : decode cX4_giveColours 40 = .ok (.aload_n 1, 1) := by decide +kernel
theorem dX4_giveColours_41 : decode cX4_giveColours 41 = .ok (.getfield 27, 3) := by decide +kernel
theorem dX4_giveColours_44 : decode cX4_giveColours 44 = .ok (.iload_n 3, 1) := by decide +kernel
theorem dX4_giveColours_45 : decode cX4_giveColours 45 = .ok (.bipush 100, 2) := by decide +kernel
theorem dX4_giveColours_47 : decode cX4_giveColours 47 = .ok (.aload_n 0, 1) := by decide +kernel
theorem dX4_giveColours_48 : decode cX4_giveColours 48 = .ok (.getfield 9, 3) := by decide +kernel
theorem dX4_giveColours_51 : decode cX4_giveColours 51 = .ok (.iload_n 2, 1) := by decide +kernel
theorem dX4_giveColours_52 : decode cX4_giveColours 52 = .ok (.iconst 2, 1) := by decide +kernel
theorem dX4_giveColours_53 : decode cX4_giveColours 53 = .ok (.iadd, 1) := by decide +kernel
theorem dX4_giveColours_54 : decode cX4_giveColours 54 = .ok (.iaload, 1) := by decide +kernel
theorem dX4_giveColours_55 : decode cX4_giveColours 55 = .ok (.bipush 48, 2) := by decide +kernel
theorem dX4_giveColours_57 : decode cX4_giveColours 57 = .ok (.isub, 1) := by decide +kernel
theorem dX4_giveColours_58 : decode cX4_giveColours 58 = .ok (.imul, 1) := by decide +kernel
theorem dX4_giveColours_59 : decode cX4_giveColours 59 = .ok (.bipush 10, 2) := by decide +kernel
theorem dX4_giveColours_61 : decode cX4_giveColours 61 = .ok (.aload_n 0, 1) := by decide +kernel
theorem dX4_giveColours_62 : decode cX4_giveColours 62 = .ok (.getfield 9, 3) := by decide +kernel
theorem dX4_giveColours_65 : decode cX4_giveColours 65 = .ok (.iload_n 2, 1) := by decide +kernel
theorem dX4_giveColours_66 : decode cX4_giveColours 66 = .ok (.iconst 3, 1) := by decide +kernel
theorem dX4_giveColours_67 : decode cX4_giveColours 67 = .ok (.iadd, 1) := by decide +kernel
theorem dX4_giveColours_68 : decode cX4_giveColours 68 = .ok (.iaload, 1) := by decide +kernel
theorem dX4_giveColours_69 : decode cX4_giveColours 69 = .ok (.bipush 48, 2) := by decide +kernel
theorem dX4_giveColours_71 : decode cX4_giveColours 71 = .ok (.isub, 1) := by decide +kernel
theorem dX4_giveColours_72 : decode cX4_giveColours 72 = .ok (.imul, 1) := by decide +kernel
theorem dX4_giveColours_73 : decode cX4_giveColours 73 = .ok (.iadd, 1) := by decide +kernel
theorem dX4_giveColours_74 : decode cX4_giveColours 74 = .ok (.aload_n 0, 1) := by decide +kernel
theorem dX4_giveColours_75 : decode cX4_giveColours 75 = .ok (.getfield 9, 3) := by decide +kernel
theorem dX4_giveColours_78 : decode cX4_giveColours 78 = .ok (.iload_n 2, 1) := by decide +kernel
theorem dX4_giveColours_79 : decode cX4_giveColours 79 = .ok (.iconst 4, 1) := by decide +kernel
theorem dX4_giveColours_80 : decode cX4_giveColours 80 = .ok (.iadd, 1) := by decide +kernel
theorem dX4_giveColours_81 : decode cX4_giveColours 81 = .ok (.iaload, 1) := by decide +kernel
theorem dX4_giveColours_82 : decode cX4_giveColours 82 = .ok (.bipush 48, 2) := by decide +kernel
theorem dX4_giveColours_84 : decode cX4_giveColours 84 = .ok (.isub, 1) := by decide +kernel
theorem dX4_giveColours_85 : decode cX4_giveColours 85 = .ok (.iadd, 1) := by decide +kernel
theorem dX4_giveColours_86 : decode cX4_giveColours 86 = .ok (.iastore, 1) := by decide +kernel
theorem dX4_giveColours_87 : decode cX4_giveColours 87 = .ok (.iinc 2 6, 3) := by decide +kernel
theorem dX4_giveColours_90 : decode cX4_giveColours 90 = .ok (.goto (-88), 3) := by decide +kernel
theorem dX4_giveColours_93 : decode cX4_giveColours 93 = .ok (.return_, 1) := by decide +kernel
set_option maxRecDepth 20000 in
theorem ggX5_init_X0_init : GoodIn wsX5_init wsX0_init := goodIn_r _ [22, 23, 2, 3, 24, 25, 26, 27, 28, 29, 30, 31, 53, 54, 55, 56, 57, 58, 59, 60, 61, 62] (by decide +kernel) (by decide +kernel)
set_option maxRecDepth 20000 in
theorem gX5_init_X0_init : GoodIn wsX5_init (wsX0_init) := ggX5_init_X0_init
set_option maxRecDepth 20000 in
theorem ggX5_init_X3_init : GoodIn wsX5_init wsX3_init := goodIn_r _ [34, 35, 2, 3, 36, 37, 38, 39, 40, 5, 6, 41, 21, 22, 23, 24, 25, 26, 27, 28, 29, 30, 31, 67, 68, 69, 70, 53, 54, 55, 56, 57, 58, 59, 60, 61, 62] (by decide +kernel) (by decide +kernel)
set_option maxRecDepth 20000 in
theorem gX5_init_X3_init : GoodIn wsX5_init (wsX3_init) := ggX5_init_X3_init
set_option maxRecDepth 20000 in
theorem ggX5_init_X4_init : GoodIn wsX5_init wsX4_init := goodIn_r _ [43, 44, 2, 3, 24, 45, 71, 72] (by decide +kernel) (by decide +kernel)
set_option maxRecDepth 20000 in
theorem gX5_init_X4_init_n25 : GoodIn wsX5_init (wsX4_init) := ggX5_init_X4_init
set_option maxRecDepth 20000 in
theorem ggX5_init_X2_init : GoodIn wsX5_init wsX2_init := goodIn_r _ [47, 48, 2, 3, 24, 49, 38, 50, 51, 52, 73, 74, 75, 76] (by decide +kernel) (by decide +kernel)
set_option maxRecDepth 20000 in
theorem gX5_init_X2_init_n32 : GoodIn wsX5_init (wsX2_init) := ggX5_init_X2_init
theorem dX5_init_0 : decode cX5_init 0 = .ok (.aload_n 0, 1) := by decide +kernel
theorem dX5_init_1 : decode cX5_init 1 = .ok (.invokespecial 3, 3) := by decide +kernel
theorem dX5_init_4 : decode cX5_init 4 = .ok (.aload_n 0, 1) := by decide +kernel
theorem dX5_init_5 : decode cX5_init 5 = .ok (.new 9, 3) := by decide +kernel
theorem dX5_init_8 : decode cX5_init 8 = .ok (.dup, 1) := by decide +kernel
theorem dX5_init_9 : decode cX5_init 9 = .ok (.invokespecial 11, 3) := by decide +kernel
theorem dX5_init_12 : decode cX5_init 12 = .ok (.putfield 12, 3) := by decide +kernel
theorem dX5_init_15 : decode cX5_init 15 = .ok (.aload_n 0, 1) := by decide +kernel
theorem dX5_init_16 : decode cX5_init 16 = .ok (.new 16, 3) := by decide +kernel
theorem dX5_init_19 : decode cX5_init 19 = .ok (.dup, 1) := by decide +kernel
theorem dX5_init_20 : decode cX5_init 20 = .ok (.invokespecial 18, 3) := by decide +kernel
theorem dX5_init_23 : decode cX5_init 23 = .ok (.putfield 19, 3) := by decide +kernel
theorem dX5_init_26 : decode cX5_init 26 = .ok (.aload_n 0, 1) := by decide +kernel
theorem dX5_init_27 : decode cX5_init 27 = .ok (.new 23, 3) := by decide +kernel
theorem dX5_init_30 : decode cX5_init 30 = .ok (.dup, 1) := by decide +kernel
theorem dX5_init_31 : decode cX5_init 31 = .ok (.invokespecial 25, 3) := by decide +kernel
theorem dX5_init_34 : decode cX5_init 34 = .ok (.putfield 26, 3) := by decide +kernel
theorem dX5_init_37 : decode cX5_init 37 = .ok (.aload_n 0, 1) := by decide +kernel
theorem dX5_init_38 : decode cX5_init 38 = .ok (.new 30, 3) := by decide +kernel
theorem dX5_init_41 : decode cX5_init 41 = .ok (.dup, 1) := by decide +kernel
theorem dX5_init_42 : decode cX5_init 42 = .ok (.invokespecial 32, 3) := by decide +kernel
theorem dX5_init_45 : decode cX5_init 45 = .ok (.putfield 33, 3) := by decide +kernel
theorem dX5_init_48 : decode cX5_init 48 = .ok (.return_, 1) := by decide +kernel
set_option maxRecDepth 20000 in
theorem ggX5_mix_X5_needPot : GoodIn wsX5_mix wsX5_needPot := goodIn_ca (goodIn_r _ [6, 7, 8] (by decide +kernel) (by decide +kernel)) (goodIn_sub (fun _ h => List.mem_cons_of_mem _ (List.mem_append_left _ (List.mem_append_right _ h))) (by decide +kernel))
set_option maxRecDepth 20000 in
theorem gX5_mix_X5_needPot : GoodIn wsX5_mix (va_wsS RX5 37 yX5_needPot wsX5_needPot) := goodIn_app (goodIn_of _ (by decide +kernel)) ggX5_mix_X5_needPot
set_option maxRecDepth 20000 in
theorem ggX5_mix_X5_needWithin : GoodIn wsX5_mix wsX5_needWithin := goodIn_ca (goodIn_r _ [11, 12, 13] (by decide +kernel) (by decide +kernel)) (goodIn_sub (fun _ h => List.mem_cons_of_mem _ (List.mem_append_right _ h)) (by decide +kernel))
set_option maxRecDepth 20000 in
theorem gX5_mix_X5_needWithin : GoodIn wsX5_mix (va_wsS RX5 41 yX5_needWithin wsX5_needWithin) := goodIn_app (goodIn_of _ (by decide +kernel)) ggX5_mix_X5_needWithin
set_option maxRecDepth 20000 in
theorem ggX5_mix_X3_save : GoodIn wsX5_mix wsX3_save := goodIn_r _ [18, 19, 20, 21, 22, 23, 17, 24, 25, 26, 27, 28, 29, 30, 31, 32, 33, 34, 35, 36, 37, 38, 39, 40, 41, 42, 43, 66, 67, 68, 69, 56, 57, 58, 59, 60, 61, 62, 63, 64, 65] (by decide +kernel) (by decide +kernel)
set_option maxRecDepth 20000 in
theorem gX5_mix_X3_save : GoodIn wsX5_mix (wsV RX5 45 RX3 yX3_save wsX3_save) := goodIn_app (goodIn_of _ (by decide +kernel)) ggX5_mix_X3_save
set_option maxRecDepth 20000 in
theorem ggX5_mix_X1_partOf : GoodIn wsX5_mix wsX1_partOf := goodIn_r _ [47] (by decide +kernel) (by decide +kernel)
set_option maxRecDepth 20000 in
theorem gX5_mix_X1_partOf : GoodIn wsX5_mix (va_wsS RX5 53 yX1_partOf wsX1_partOf) := goodIn_app (goodIn_of _ (by decide +kernel)) ggX5_mix_X1_partOf
set_option maxRecDepth 20000 in
theorem ggX5_mix_X1_withPart : GoodIn wsX5_mix wsX1_withPart := goodIn_r _ [50, 51, 45, 46, 47] (by decide +kernel) (by decide +kernel)
set_option maxRecDepth 20000 in
theorem gX5_mix_X1_withPart : GoodIn wsX5_mix (va_wsS RX5 59 yX1_withPart wsX1_withPart) := goodIn_app (goodIn_of _ (by decide +kernel)) ggX5_mix_X1_withPart
theorem dX5_mix_0 : decode cX5_mix 0 = .ok (.iload_n 1, 1) := by decide +kernel
theorem dX5_mix_1 : decode cX5_mix 1 = .ok (.invokestatic 37, 3) := by decide +kernel
theorem dX5_mix_4 : decode cX5_mix 4 = .ok (.iload_n 2, 1) := by decide +kernel
theorem dX5_mix_5 : decode cX5_mix 5 = .ok (.iconst 0, 1) := by decide +kernel
theorem dX5_mix_6 : decode cX5_mix 6 = .ok (.iconst 2, 1) := by decide +kernel
theorem dX5_mix_7 : decode cX5_mix 7 = .ok (.invokestatic 41, 3) := by decide +kernel
theorem dX5_mix_10 : decode cX5_mix 10 = .ok (.iload_n 3, 1) := by decide +kernel
theorem dX5_mix_11 : decode cX5_mix 11 = .ok (.iconst 0, 1) := by decide +kernel
theorem dX5_mix_12 : decode cX5_mix 12 = .ok (.bipush 9, 2) := by decide +kernel
theorem dX5_mix_14 : decode cX5_mix 14 = .ok (.invokestatic 41, 3) := by decide +kernel
theorem dX5_mix_17 : decode cX5_mix 17 = .ok (.aload_n 0, 1) := by decide +kernel
theorem dX5_mix_18 : decode cX5_mix 18 = .ok (.getfield 19, 3) := by decide +kernel
theorem dX5_mix_21 : decode cX5_mix 21 = .ok (.aload_n 0, 1) := by decide +kernel
theorem dX5_mix_22 : decode cX5_mix 22 = .ok (.getfield 12, 3) := by decide +kernel
theorem dX5_mix_25 : decode cX5_mix 25 = .ok (.invokevirtual 45, 3) := by decide +kernel
theorem dX5_mix_28 : decode cX5_mix 28 = .ok (.aload_n 0, 1) := by decide +kernel
theorem dX5_mix_29 : decode cX5_mix 29 = .ok (.getfield 12, 3) := by decide +kernel
theorem dX5_mix_32 : decode cX5_mix 32 = .ok (.getfield 49, 3) := by decide +kernel
theorem dX5_mix_35 : decode cX5_mix 35 = .ok (.iload_n 1, 1) := by decide +kernel
theorem dX5_mix_36 : decode cX5_mix 36 = .ok (.iaload, 1) := by decide +kernel
theorem dX5_mix_37 : decode cX5_mix 37 = .ok (.iload_n 2, 1) := by decide +kernel
theorem dX5_mix_38 : decode cX5_mix 38 = .ok (.invokestatic 53, 3) := by decide +kernel
theorem dX5_mix_41 : decode cX5_mix 41 = .ok (.istore 4, 2) := by decide +kernel
theorem dX5_mix_43 : decode cX5_mix 43 = .ok (.aload_n 0, 1) := by decide +kernel
theorem dX5_mix_44 : decode cX5_mix 44 = .ok (.getfield 12, 3) := by decide +kernel
theorem dX5_mix_47 : decode cX5_mix 47 = .ok (.getfield 49, 3) := by decide +kernel
theorem dX5_mix_50 : decode cX5_mix 50 = .ok (.iload_n 1, 1) := by decide +kernel
theorem dX5_mix_51 : decode cX5_mix 51 = .ok (.aload_n 0, 1) := by decide +kernel
theorem dX5_mix_52 : decode cX5_mix 52 = .ok (.getfield 12, 3) := by decide +kernel
theorem dX5_mix_55 : decode cX5_mix 55 = .ok (.getfield 49, 3) := by decide +kernel
theorem dX5_mix_58 : decode cX5_mix 58 = .ok (.iload_n 1, 1) := by decide +kernel
theorem dX5_mix_59 : decode cX5_mix 59 = .ok (.iaload, 1) := by decide +kernel
theorem dX5_mix_60 : decode cX5_mix 60 = .ok (.iload_n 2, 1) := by decide +kernel
theorem dX5_mix_61 : decode cX5_mix 61 = .ok (.iload_n 3, 1) := by decide +kernel
theorem dX5_mix_62 : decode cX5_mix 62 = .ok (.invokestatic 59, 3) := by decide +kernel
theorem dX5_mix_65 : decode cX5_mix 65 = .ok (.iastore, 1) := by decide +kernel
theorem dX5_mix_66 : decode cX5_mix 66 = .ok (.iload 4, 2) := by decide +kernel
theorem dX5_mix_68 : decode cX5_mix 68 = .ok (.ireturn, 1) := by decide +kernel
set_option maxRecDepth 20000 in
theorem ggX5_painter_X5_needPainter : GoodIn wsX5_painter wsX5_needPainter := goodIn_ca (goodIn_r _ [6, 7, 8] (by decide +kernel) (by decide +kernel)) (goodIn_sub (fun _ h => List.mem_cons_of_mem _ (List.mem_append_left _ (List.mem_append_right _ h))) (by decide +kernel))
set_option maxRecDepth 20000 in
theorem gX5_painter_X5_needPainter : GoodIn wsX5_painter (va_wsS RX5 63 yX5_needPainter wsX5_needPainter) := goodIn_app (goodIn_of _ (by decide +kernel)) ggX5_painter_X5_needPainter
set_option maxRecDepth 20000 in
theorem ggX5_painter_X5_needWithin : GoodIn wsX5_painter wsX5_needWithin := goodIn_ca (goodIn_r _ [11, 12, 13] (by decide +kernel) (by decide +kernel)) (goodIn_sub (fun _ h => List.mem_cons_of_mem _ (List.mem_append_right _ h)) (by decide +kernel))
set_option maxRecDepth 20000 in
theorem gX5_painter_X5_needWithin : GoodIn wsX5_painter (va_wsS RX5 41 yX5_needWithin wsX5_needWithin) := goodIn_app (goodIn_of _ (by decide +kernel)) ggX5_painter_X5_needWithin
set_option maxRecDepth 20000 in
theorem ggX5_painter_X3_save : GoodIn wsX5_painter wsX3_save := goodIn_r _ [18, 19, 20, 21, 22, 23, 17, 24, 25, 26, 27, 28, 29, 30, 31, 32, 33, 34, 35, 36, 37, 38, 39, 40, 41, 42, 43, 58, 59, 60, 61, 48, 49, 50, 51, 52, 53, 54, 55, 56, 57] (by decide +kernel) (by decide +kernel)
set_option maxRecDepth 20000 in
theorem gX5_painter_X3_save : GoodIn wsX5_painter (wsV RX5 45 RX3 yX3_save wsX3_save) := goodIn_app (goodIn_of _ (by decide +kernel)) ggX5_painter_X3_save
theorem dX5_painter_0 : decode cX5_painter 0 = .ok (.iload_n 1, 1) := by decide +kernel
theorem dX5_painter_1 : decode cX5_painter 1 = .ok (.invokestatic 63, 3) := by decide +kernel
theorem dX5_painter_4 : decode cX5_painter 4 = .ok (.iload_n 2, 1) := by decide +kernel
theorem dX5_painter_5 : decode cX5_painter 5 = .ok (.iconst 0, 1) := by decide +kernel
theorem dX5_painter_6 : decode cX5_painter 6 = .ok (.iconst 1, 1) := by decide +kernel
theorem dX5_painter_7 : decode cX5_painter 7 = .ok (.invokestatic 41, 3) := by decide +kernel
theorem dX5_painter_10 : decode cX5_painter 10 = .ok (.iload_n 3, 1) := by decide +kernel
theorem dX5_painter_11 : decode cX5_painter 11 = .ok (.iconst 0, 1) := by decide +kernel
theorem dX5_painter_12 : decode cX5_painter 12 = .ok (.iload_n 2, 1) := by decide +kernel
theorem dX5_painter_13 : decode cX5_painter 13 = .ok (.ifCond .ne 7, 3) := by decide +kernel
theorem dX5_painter_16 : decode cX5_painter 16 = .ok (.iconst 3, 1) := by decide +kernel
theorem dX5_painter_17 : decode cX5_painter 17 = .ok (.goto 5, 3) := by decide +kernel
theorem dX5_painter_20 : decode cX5_painter 20 = .ok (.bipush 27, 2) := by decide +kernel
theorem dX5_painter_22 : decode cX5_painter 22 = .ok (.invokestatic 41, 3) := by decide +kernel
theorem dX5_painter_25 : decode cX5_painter 25 = .ok (.aload_n 0, 1) := by decide +kernel
theorem dX5_painter_26 : decode cX5_painter 26 = .ok (.getfield 19, 3) := by decide +kernel
theorem dX5_painter_29 : decode cX5_painter 29 = .ok (.aload_n 0, 1) := by decide +kernel
theorem dX5_painter_30 : decode cX5_painter 30 = .ok (.getfield 12, 3) := by decide +kernel
theorem dX5_painter_33 : decode cX5_painter 33 = .ok (.invokevirtual 45, 3) := by decide +kernel
theorem dX5_painter_36 : decode cX5_painter 36 = .ok (.iload_n 2, 1) := by decide +kernel
theorem dX5_painter_37 : decode cX5_painter 37 = .ok (.ifCond .ne 13, 3) := by decide +kernel
theorem dX5_painter_40 : decode cX5_painter 40 = .ok (.aload_n 0, 1) := by decide +kernel
theorem dX5_painter_41 : decode cX5_painter 41 = .ok (.getfield 12, 3) := by decide +kernel
theorem dX5_painter_44 : decode cX5_painter 44 = .ok (.getfield 66, 3) := by decide +kernel
theorem dX5_painter_47 : decode cX5_painter 47 = .ok (.goto 10, 3) := by decide +kernel
theorem dX5_painter_50 : decode cX5_painter 50 = .ok (.aload_n 0, 1) := by decide +kernel
theorem dX5_painter_51 : decode cX5_painter 51 = .ok (.getfield 12, 3) := by decide +kernel
theorem dX5_painter_54 : decode cX5_painter 54 = .ok (.getfield 69, 3) := by decide +kernel
theorem dX5_painter_57 : decode cX5_painter 57 = .ok (.astore 4, 2) := by decide +kernel
theorem dX5_painter_59 : decode cX5_painter 59 = .ok (.aload 4, 2) := by decide +kernel
theorem dX5_painter_61 : decode cX5_painter 61 = .ok (.iload_n 1, 1) := by decide +kernel
theorem dX5_painter_62 : decode cX5_painter 62 = .ok (.iaload, 1) := by decide +kernel
theorem dX5_painter_63 : decode cX5_painter 63 = .ok (.istore 5, 2) := by decide +kernel
theorem dX5_painter_65 : decode cX5_painter 65 = .ok (.aload 4, 2) := by decide +kernel
theorem dX5_painter_67 : decode cX5_painter 67 = .ok (.iload_n 1, 1) := by decide +kernel
theorem dX5_painter_68 : decode cX5_painter 68 = .ok (.iload_n 3, 1) := by decide +kernel
theorem dX5_painter_69 : decode cX5_painter 69 = .ok (.iastore, 1) := by decide +kernel
theorem dX5_painter_70 : decode cX5_painter 70 = .ok (.iload 5, 2) := by decide +kernel
theorem dX5_painter_72 : decode cX5_painter 72 = .ok (.ireturn, 1) := by decide +kernel
set_option maxRecDepth 20000 in
theorem ggX5_borrow_X5_needPainter : GoodIn wsX5_borrow wsX5_needPainter := goodIn_ca (goodIn_r _ [6, 7, 8] (by decide +kernel) (by decide +kernel)) (goodIn_sub (fun _ h => List.mem_cons_of_mem _ (List.mem_append_right _ h)) (by decide +kernel))
set_option maxRecDepth 20000 in
theorem gX5_borrow_X5_needPainter : GoodIn wsX5_borrow (va_wsS RX5 63 yX5_needPainter wsX5_needPainter) := goodIn_app (goodIn_of _ (by decide +kernel)) ggX5_borrow_X5_needPainter
set_option maxRecDepth 20000 in
theorem ggX5_borrow_X3_save : GoodIn wsX5_borrow wsX3_save := goodIn_r _ [13, 14, 15, 16, 17, 18, 12, 19, 20, 21, 22, 23, 24, 25, 26, 27, 28, 29, 30, 31, 32, 33, 34, 35, 36, 37, 38, 53, 54, 55, 56, 43, 44, 45, 46, 47, 48, 49, 50, 51, 52] (by decide +kernel) (by decide +kernel)
set_option maxRecDepth 20000 in
theorem gX5_borrow_X3_save : GoodIn wsX5_borrow (wsV RX5 45 RX3 yX3_save wsX3_save) := goodIn_app (goodIn_of _ (by decide +kernel)) ggX5_borrow_X3_save
theorem dX5_borrow_0 : decode cX5_borrow 0 = .ok (.iload_n 1, 1) := by decide +kernel
theorem dX5_borrow_1 : decode cX5_borrow 1 = .ok (.invokestatic 63, 3) := by decide +kernel
theorem dX5_borrow_4 : decode cX5_borrow 4 = .ok (.iload_n 2, 1) := by decide +kernel
theorem dX5_borrow_5 : decode cX5_borrow 5 = .ok (.invokestatic 63, 3) := by decide +kernel
theorem dX5_borrow_8 : decode cX5_borrow 8 = .ok (.aload_n 0, 1) := by decide +kernel
theorem dX5_borrow_9 : decode cX5_borrow 9 = .ok (.getfield 19, 3) := by decide +kernel
theorem dX5_borrow_12 : decode cX5_borrow 12 = .ok (.aload_n 0, 1) := by decide +kernel
theorem dX5_borrow_13 : decode cX5_borrow 13 = .ok (.getfield 12, 3) := by decide +kernel
theorem dX5_borrow_16 : decode cX5_borrow 16 = .ok (.invokevirtual 45, 3) := by decide +kernel
theorem dX5_borrow_19 : decode cX5_borrow 19 = .ok (.aload_n 0, 1) := by decide +kernel
theorem dX5_borrow_20 : decode cX5_borrow 20 = .ok (.getfield 12, 3) := by decide +kernel
theorem dX5_borrow_23 : decode cX5_borrow 23 = .ok (.getfield 72, 3) := by decide +kernel
theorem dX5_borrow_26 : decode cX5_borrow 26 = .ok (.iload_n 1, 1) := by decide +kernel
theorem dX5_borrow_27 : decode cX5_borrow 27 = .ok (.iaload, 1) := by decide +kernel
theorem dX5_borrow_28 : decode cX5_borrow 28 = .ok (.istore_n 3, 1) := by decide +kernel
theorem dX5_borrow_29 : decode cX5_borrow 29 = .ok (.aload_n 0, 1) := by decide +kernel
theorem dX5_borrow_30 : decode cX5_borrow 30 = .ok (.getfield 12, 3) := by decide +kernel
theorem dX5_borrow_33 : decode cX5_borrow 33 = .ok (.getfield 72, 3) := by decide +kernel
theorem dX5_borrow_36 : decode cX5_borrow 36 = .ok (.iload_n 1, 1) := by decide +kernel
theorem dX5_borrow_37 : decode cX5_borrow 37 = .ok (.iload_n 2, 1) := by decide +kernel
theorem dX5_borrow_38 : decode cX5_borrow 38 = .ok (.iload_n 1, 1) := by decide +kernel
theorem dX5_borrow_39 : decode cX5_borrow 39 = .ok (.if_icmp .ne 7, 3) := by decide +kernel
theorem dX5_borrow_42 : decode cX5_borrow 42 = .ok (.iconst (-1), 1) := by decide +kernel
theorem dX5_borrow_43 : decode cX5_borrow 43 = .ok (.goto 4, 3) := by decide +kernel
theorem dX5_borrow_46 : decode cX5_borrow 46 = .ok (.iload_n 2, 1) := by decide +kernel
theorem dX5_borrow_47 : decode cX5_borrow 47 = .ok (.iastore, 1) := by decide +kernel
theorem dX5_borrow_48 : decode cX5_borrow 48 = .ok (.iload_n 3, 1) := by decide +kernel
theorem dX5_borrow_49 : decode cX5_borrow 49 = .ok (.ireturn, 1) := by decide +kernel
set_option maxRecDepth 20000 in
theorem ggX5_label_X5_needPot : GoodIn wsX5_label wsX5_needPot := goodIn_ca (goodIn_r _ [6, 7, 8] (by decide +kernel) (by decide +kernel)) (goodIn_sub (fun _ h => List.mem_cons_of_mem _ (List.mem_append_left _ (List.mem_append_right _ h))) (by decide +kernel))
set_option maxRecDepth 20000 in
theorem gX5_label_X5_needPot : GoodIn wsX5_label (va_wsS RX5 37 yX5_needPot wsX5_needPot) := goodIn_app (goodIn_of _ (by decide +kernel)) ggX5_label_X5_needPot
set_option maxRecDepth 20000 in
theorem ggX5_label_X5_needWithin : GoodIn wsX5_label wsX5_needWithin := goodIn_ca (goodIn_r _ [11, 12, 13] (by decide +kernel) (by decide +kernel)) (goodIn_sub (fun _ h => List.mem_cons_of_mem _ (List.mem_append_right _ h)) (by decide +kernel))
set_option maxRecDepth 20000 in
theorem gX5_label_X5_needWithin : GoodIn wsX5_label (va_wsS RX5 41 yX5_needWithin wsX5_needWithin) := goodIn_app (goodIn_of _ (by decide +kernel)) ggX5_label_X5_needWithin
set_option maxRecDepth 20000 in
theorem ggX5_label_X3_save : GoodIn wsX5_label wsX3_save := goodIn_r _ [18, 19, 20, 21, 22, 23, 17, 24, 25, 26, 27, 28, 29, 30, 31, 32, 33, 34, 35, 36, 37, 38, 39, 40, 41, 42, 43, 58, 59, 60, 61, 48, 49, 50, 51, 52, 53, 54, 55, 56, 57] (by decide +kernel) (by decide +kernel)
set_option maxRecDepth 20000 in
theorem gX5_label_X3_save : GoodIn wsX5_label (wsV RX5 45 RX3 yX3_save wsX3_save) := goodIn_app (goodIn_of _ (by decide +kernel)) ggX5_label_X3_save
theorem dX5_label_0 : decode cX5_label 0 = .ok (.iload_n 1, 1) := by decide +kernel
theorem dX5_label_1 : decode cX5_label 1 = .ok (.invokestatic 37, 3) := by decide +kernel
theorem dX5_label_4 : decode cX5_label 4 = .ok (.iload_n 2, 1) := by decide +kernel
theorem dX5_label_5 : decode cX5_label 5 = .ok (.iconst (-1), 1) := by decide +kernel
theorem dX5_label_6 : decode cX5_label 6 = .ok (.bipush 7, 2) := by decide +kernel
theorem dX5_label_8 : decode cX5_label 8 = .ok (.invokestatic 41, 3) := by decide +kernel
theorem dX5_label_11 : decode cX5_label 11 = .ok (.aload_n 0, 1) := by decide +kernel
theorem dX5_label_12 : decode cX5_label 12 = .ok (.getfield 19, 3) := by decide +kernel
theorem dX5_label_15 : decode cX5_label 15 = .ok (.aload_n 0, 1) := by decide +kernel
theorem dX5_label_16 : decode cX5_label 16 = .ok (.getfield 12, 3) := by decide +kernel
theorem dX5_label_19 : decode cX5_label 19 = .ok (.invokevirtual 45, 3) := by decide +kernel
theorem dX5_label_22 : decode cX5_label 22 = .ok (.aload_n 0, 1) := by decide +kernel
theorem dX5_label_23 : decode cX5_label 23 = .ok (.getfield 12, 3) := by decide +kernel
theorem dX5_label_26 : decode cX5_label 26 = .ok (.getfield 75, 3) := by decide +kernel
theorem dX5_label_29 : decode cX5_label 29 = .ok (.iload_n 1, 1) := by decide +kernel
theorem dX5_label_30 : decode cX5_label 30 = .ok (.iaload, 1) := by decide +kernel
theorem dX5_label_31 : decode cX5_label 31 = .ok (.istore_n 3, 1) := by decide +kernel
theorem dX5_label_32 : decode cX5_label 32 = .ok (.aload_n 0, 1) := by decide +kernel
theorem dX5_label_33 : decode cX5_label 33 = .ok (.getfield 12, 3) := by decide +kernel
theorem dX5_label_36 : decode cX5_label 36 = .ok (.getfield 75, 3) := by decide +kernel
theorem dX5_label_39 : decode cX5_label 39 = .ok (.iload_n 1, 1) := by decide +kernel
theorem dX5_label_40 : decode cX5_label 40 = .ok (.iload_n 2, 1) := by decide +kernel
theorem dX5_label_41 : decode cX5_label 41 = .ok (.iastore, 1) := by decide +kernel
theorem dX5_label_42 : decode cX5_label 42 = .ok (.iload_n 3, 1) := by decide +kernel
theorem dX5_label_43 : decode cX5_label 43 = .ok (.ireturn, 1) := by decide +kernel
set_option maxRecDepth 20000 in
theorem ggX5_labelAll_X5_needPainter : GoodIn wsX5_labelAll wsX5_needPainter := goodIn_ca (goodIn_r _ [6, 7, 8] (by decide +kernel) (by decide +kernel)) (goodIn_sub (fun _ h => List.mem_cons_of_mem _ (List.mem_append_right _ h)) (by decide +kernel))
set_option maxRecDepth 20000 in
theorem gX5_labelAll_X5_needPainter : GoodIn wsX5_labelAll (va_wsS RX5 63 yX5_needPainter wsX5_needPainter) := goodIn_app (goodIn_of _ (by decide +kernel)) ggX5_labelAll_X5_needPainter
set_option maxRecDepth 20000 in
theorem ggX5_labelAll_X3_save : GoodIn wsX5_labelAll wsX3_save := goodIn_r _ [13, 14, 15, 16, 17, 18, 12, 19, 20, 21, 22, 23, 24, 25, 26, 27, 28, 29, 30, 31, 32, 33, 34, 35, 36, 37, 38, 80, 81, 82, 83, 84, 85, 86, 87, 88, 89, 90, 91, 92, 93] (by decide +kernel) (by decide +kernel)
set_option maxRecDepth 20000 in
theorem gX5_labelAll_X3_save : GoodIn wsX5_labelAll (wsV RX5 45 RX3 yX3_save wsX3_save) := goodIn_app (goodIn_of _ (by decide +kernel)) ggX5_labelAll_X3_save
set_option maxRecDepth 20000 in
theorem ggX5_labelAll_X0_labelInOrder : GoodIn wsX5_labelAll wsX0_labelInOrder := goodIn_r _ [42, 30, 43, 44, 45, 23, 46, 33, 25, 47, 48, 49, 50, 32, 31, 51, 52, 53, 54, 55, 56, 57, 58, 59, 60, 61, 62, 63, 64, 84, 85, 86, 87, 88, 89, 90, 91, 92, 93] (by decide +kernel) (by decide +kernel)
set_option maxRecDepth 20000 in
theorem gX5_labelAll_X0_labelInOrder : GoodIn wsX5_labelAll (wsV RX5 78 RX0 yX0_labelInOrder wsX0_labelInOrder) := goodIn_app (goodIn_of _ (by decide +kernel)) ggX5_labelAll_X0_labelInOrder
set_option maxRecDepth 20000 in
theorem ggX5_labelAll_X0_unlikeLabels : GoodIn wsX5_labelAll wsX0_unlikeLabels := goodIn_r _ [68, 30, 69, 70, 71, 72, 73, 74, 75, 84, 85, 86, 87, 88, 89, 90, 91, 92, 93] (by decide +kernel) (by decide +kernel)
set_option maxRecDepth 20000 in
theorem gX5_labelAll_X0_unlikeLabels : GoodIn wsX5_labelAll (wsV RX5 81 RX0 yX0_unlikeLabels wsX0_unlikeLabels) := goodIn_app (goodIn_of _ (by decide +kernel)) ggX5_labelAll_X0_unlikeLabels
theorem dX5_labelAll_0 : decode cX5_labelAll 0 = .ok (.iload_n 1, 1) := by decide +kernel
theorem dX5_labelAll_1 : decode cX5_labelAll 1 = .ok (.invokestatic 63, 3) := by decide +kernel
theorem dX5_labelAll_4 : decode cX5_labelAll 4 = .ok (.aload_n 0, 1) := by decide +kernel
theorem dX5_labelAll_5 : decode cX5_labelAll 5 = .ok (.getfield 19, 3) := by decide +kernel
theorem dX5_labelAll_8 : decode cX5_labelAll 8 = .ok (.aload_n 0, 1) := by decide +kernel
theorem dX5_labelAll_9 : decode cX5_labelAll 9 = .ok (.getfield 12, 3) := by decide +kernel
theorem dX5_labelAll_12 : decode cX5_labelAll 12 = .ok (.invokevirtual 45, 3) := by decide +kernel
theorem dX5_labelAll_15 : decode cX5_labelAll 15 = .ok (.aload_n 0, 1) := by decide +kernel
theorem dX5_labelAll_16 : decode cX5_labelAll 16 = .ok (.getfield 12, 3) := by decide +kernel
theorem dX5_labelAll_19 : decode cX5_labelAll 19 = .ok (.iload_n 1, 1) := by decide +kernel
theorem dX5_labelAll_20 : decode cX5_labelAll 20 = .ok (.invokevirtual 78, 3) := by decide +kernel
theorem dX5_labelAll_23 : decode cX5_labelAll 23 = .ok (.aload_n 0, 1) := by decide +kernel
theorem dX5_labelAll_24 : decode cX5_labelAll 24 = .ok (.getfield 12, 3) := by decide +kernel
theorem dX5_labelAll_27 : decode cX5_labelAll 27 = .ok (.invokevirtual 81, 3) := by decide +kernel
theorem dX5_labelAll_30 : decode cX5_labelAll 30 = .ok (.ireturn, 1) := by decide +kernel
set_option maxRecDepth 20000 in
theorem ggX5_hang_X5_needPot : GoodIn wsX5_hang wsX5_needPot := goodIn_ca (goodIn_r _ [6, 7, 8] (by decide +kernel) (by decide +kernel)) (goodIn_sub (fun _ h => List.mem_cons_of_mem _ (List.mem_append_left _ (List.mem_append_right _ h))) (by decide +kernel))
set_option maxRecDepth 20000 in
theorem gX5_hang_X5_needPot : GoodIn wsX5_hang (va_wsS RX5 37 yX5_needPot wsX5_needPot) := goodIn_app (goodIn_of _ (by decide +kernel)) ggX5_hang_X5_needPot
set_option maxRecDepth 20000 in
theorem ggX5_hang_X5_needUnlike : GoodIn wsX5_hang wsX5_needUnlike := goodIn_ca (goodIn_r _ [11, 12, 13] (by decide +kernel) (by decide +kernel)) (goodIn_sub (fun _ h => List.mem_cons_of_mem _ (List.mem_append_right _ h)) (by decide +kernel))
set_option maxRecDepth 20000 in
theorem gX5_hang_X5_needUnlike : GoodIn wsX5_hang (va_wsS RX5 85 yX5_needUnlike wsX5_needUnlike) := goodIn_app (goodIn_of _ (by decide +kernel)) ggX5_hang_X5_needUnlike
set_option maxRecDepth 20000 in
theorem ggX5_hang_X3_save : GoodIn wsX5_hang wsX3_save := goodIn_r _ [18, 19, 20, 21, 22, 23, 17, 24, 25, 26, 27, 28, 29, 30, 31, 32, 33, 34, 35, 36, 37, 38, 39, 40, 41, 42, 43, 52, 53, 54, 55, 56, 57, 58, 59, 60, 61, 62, 63, 64, 65] (by decide +kernel) (by decide +kernel)
set_option maxRecDepth 20000 in
theorem gX5_hang_X3_save : GoodIn wsX5_hang (wsV RX5 45 RX3 yX3_save wsX3_save) := goodIn_app (goodIn_of _ (by decide +kernel)) ggX5_hang_X3_save
set_option maxRecDepth 20000 in
theorem ggX5_hang_X0_addChart : GoodIn wsX5_hang wsX0_addChart := goodIn_r _ [47, 41, 43, 39, 40, 56, 57, 58, 59, 60, 61, 62, 63, 64, 65] (by decide +kernel) (by decide +kernel)
set_option maxRecDepth 20000 in
theorem gX5_hang_X0_addChart : GoodIn wsX5_hang (wsV RX5 89 RX0 yX0_addChart wsX0_addChart) := goodIn_app (goodIn_of _ (by decide +kernel)) ggX5_hang_X0_addChart
theorem dX5_hang_0 : decode cX5_hang 0 = .ok (.iload_n 1, 1) := by decide +kernel
theorem dX5_hang_1 : decode cX5_hang 1 = .ok (.invokestatic 37, 3) := by decide +kernel
theorem dX5_hang_4 : decode cX5_hang 4 = .ok (.iload_n 2, 1) := by decide +kernel
theorem dX5_hang_5 : decode cX5_hang 5 = .ok (.invokestatic 37, 3) := by decide +kernel
theorem dX5_hang_8 : decode cX5_hang 8 = .ok (.iload_n 1, 1) := by decide +kernel
theorem dX5_hang_9 : decode cX5_hang 9 = .ok (.iload_n 2, 1) := by decide +kernel
theorem dX5_hang_10 : decode cX5_hang 10 = .ok (.invokestatic 85, 3) := by decide +kernel
theorem dX5_hang_13 : decode cX5_hang 13 = .ok (.aload_n 0, 1) := by decide +kernel
theorem dX5_hang_14 : decode cX5_hang 14 = .ok (.getfield 19, 3) := by decide +kernel
theorem dX5_hang_17 : decode cX5_hang 17 = .ok (.aload_n 0, 1) := by decide +kernel
theorem dX5_hang_18 : decode cX5_hang 18 = .ok (.getfield 12, 3) := by decide +kernel
theorem dX5_hang_21 : decode cX5_hang 21 = .ok (.invokevirtual 45, 3) := by decide +kernel
theorem dX5_hang_24 : decode cX5_hang 24 = .ok (.aload_n 0, 1) := by decide +kernel
theorem dX5_hang_25 : decode cX5_hang 25 = .ok (.getfield 12, 3) := by decide +kernel
theorem dX5_hang_28 : decode cX5_hang 28 = .ok (.iload_n 1, 1) := by decide +kernel
theorem dX5_hang_29 : decode cX5_hang 29 = .ok (.iload_n 2, 1) := by decide +kernel
theorem dX5_hang_30 : decode cX5_hang 30 = .ok (.invokevirtual 89, 3) := by decide +kernel
theorem dX5_hang_33 : decode cX5_hang 33 = .ok (.ireturn, 1) := by decide +kernel
set_option maxRecDepth 20000 in
theorem ggX5_takeDown_X5_needChart : GoodIn wsX5_takeDown wsX5_needChart := goodIn_ca (goodIn_r _ [7, 8, 9, 2, 74, 75, 76, 77, 78, 79, 80, 81, 82, 83, 84, 85, 86, 87] (by decide +kernel) (by decide +kernel)) (goodIn_sub (fun _ h => List.mem_cons_of_mem _ (List.mem_append_right _ h)) (by decide +kernel))
set_option maxRecDepth 20000 in
theorem gX5_takeDown_X5_needChart : GoodIn wsX5_takeDown (wsV RX5 92 RX5 yX5_needChart wsX5_needChart) := goodIn_app (goodIn_of _ (by decide +kernel)) ggX5_takeDown_X5_needChart
set_option maxRecDepth 20000 in
theorem ggX5_takeDown_X3_save : GoodIn wsX5_takeDown wsX3_save := goodIn_r _ [14, 15, 16, 17, 18, 19, 13, 20, 21, 22, 23, 24, 25, 26, 27, 28, 29, 30, 31, 32, 33, 34, 35, 36, 37, 38, 39, 88, 89, 90, 91, 78, 79, 80, 81, 82, 83, 84, 85, 86, 87] (by decide +kernel) (by decide +kernel)
set_option maxRecDepth 20000 in
theorem gX5_takeDown_X3_save : GoodIn wsX5_takeDown (wsV RX5 45 RX3 yX3_save wsX3_save) := goodIn_app (goodIn_of _ (by decide +kernel)) ggX5_takeDown_X3_save
set_option maxRecDepth 20000 in
theorem ggX5_takeDown_X0_readersOf : GoodIn wsX5_takeDown wsX0_readersOf := goodIn_r _ [43, 35, 36, 44, 45, 46, 24, 47, 34, 26, 48, 49, 50, 51, 33, 32, 52, 53, 54, 55, 56, 57, 58, 59, 60, 61, 62, 78, 79, 80, 81, 82, 83, 84, 85, 86, 87] (by decide +kernel) (by decide +kernel)
set_option maxRecDepth 20000 in
theorem gX5_takeDown_X0_readersOf : GoodIn wsX5_takeDown (wsV RX5 95 RX0 yX0_readersOf wsX0_readersOf) := goodIn_app (goodIn_of _ (by decide +kernel)) ggX5_takeDown_X0_readersOf
set_option maxRecDepth 20000 in
theorem ggX5_takeDown_J6_bitCount_0f7a4 : GoodIn wsX5_takeDown wsJ6_bitCount_0f7a4 := goodIn_r _ [66, 67, 68, 69] (by decide +kernel) (by decide +kernel)
set_option maxRecDepth 20000 in
theorem gX5_takeDown_J6_bitCount_0f7a4 : GoodIn wsX5_takeDown (va_wsS RX5 99 yJ6_bitCount_0f7a4 wsJ6_bitCount_0f7a4) := goodIn_app (goodIn_of _ (by decide +kernel)) ggX5_takeDown_J6_bitCount_0f7a4
set_option maxRecDepth 20000 in
theorem ggX5_takeDown_X0_removeChart : GoodIn wsX5_takeDown wsX0_removeChart := goodIn_r _ [73, 37, 35, 36, 78, 79, 80, 81, 82, 83, 84, 85, 86, 87] (by decide +kernel) (by decide +kernel)
set_option maxRecDepth 20000 in
theorem gX5_takeDown_X0_removeChart : GoodIn wsX5_takeDown (wsV RX5 104 RX0 yX0_removeChart wsX0_removeChart) := goodIn_app (goodIn_of _ (by decide +kernel)) ggX5_takeDown_X0_removeChart
theorem dX5_takeDown_0 : decode cX5_takeDown 0 = .ok (.aload_n 0, 1) := by decide +kernel
theorem dX5_takeDown_1 : decode cX5_takeDown 1 = .ok (.iload_n 1, 1) := by decide +kernel
theorem dX5_takeDown_2 : decode cX5_takeDown 2 = .ok (.invokevirtual 92, 3) := by decide +kernel
theorem dX5_takeDown_5 : decode cX5_takeDown 5 = .ok (.aload_n 0, 1) := by decide +kernel
theorem dX5_takeDown_6 : decode cX5_takeDown 6 = .ok (.getfield 19, 3) := by decide +kernel
theorem dX5_takeDown_9 : decode cX5_takeDown 9 = .ok (.aload_n 0, 1) := by decide +kernel
theorem dX5_takeDown_10 : decode cX5_takeDown 10 = .ok (.getfield 12, 3) := by decide +kernel
theorem dX5_takeDown_13 : decode cX5_takeDown 13 = .ok (.invokevirtual 45, 3) := by decide +kernel
theorem dX5_takeDown_16 : decode cX5_takeDown 16 = .ok (.aload_n 0, 1) := by decide +kernel
theorem dX5_takeDown_17 : decode cX5_takeDown 17 = .ok (.getfield 12, 3) := by decide +kernel
theorem dX5_takeDown_20 : decode cX5_takeDown 20 = .ok (.iload_n 1, 1) := by decide +kernel
theorem dX5_takeDown_21 : decode cX5_takeDown 21 = .ok (.invokevirtual 95, 3) := by decide +kernel
theorem dX5_takeDown_24 : decode cX5_takeDown 24 = .ok (.invokestatic 99, 3) := by decide +kernel
theorem dX5_takeDown_27 : decode cX5_takeDown 27 = .ok (.istore_n 2, 1) := by decide +kernel
theorem dX5_takeDown_28 : decode cX5_takeDown 28 = .ok (.aload_n 0, 1) := by decide +kernel
theorem dX5_takeDown_29 : decode cX5_takeDown 29 = .ok (.getfield 12, 3) := by decide +kernel
theorem dX5_takeDown_32 : decode cX5_takeDown 32 = .ok (.iload_n 1, 1) := by decide +kernel
theorem dX5_takeDown_33 : decode cX5_takeDown 33 = .ok (.invokevirtual 104, 3) := by decide +kernel
theorem dX5_takeDown_36 : decode cX5_takeDown 36 = .ok (.iload_n 2, 1) := by decide +kernel
theorem dX5_takeDown_37 : decode cX5_takeDown 37 = .ok (.ireturn, 1) := by decide +kernel
set_option maxRecDepth 20000 in
theorem ggX5_correct_X5_needChart : GoodIn wsX5_correct wsX5_needChart := goodIn_ca (goodIn_r _ [7, 8, 9, 2, 70, 71, 72, 73, 74, 75, 76, 77, 78, 79, 80, 81, 82, 83] (by decide +kernel) (by decide +kernel)) (goodIn_sub (fun _ h => List.mem_cons_of_mem _ (List.mem_append_right _ h)) (by decide +kernel))
set_option maxRecDepth 20000 in
theorem gX5_correct_X5_needChart : GoodIn wsX5_correct (wsV RX5 92 RX5 yX5_needChart wsX5_needChart) := goodIn_app (goodIn_of _ (by decide +kernel)) ggX5_correct_X5_needChart
set_option maxRecDepth 20000 in
theorem ggX5_correct_X5_needPainter : GoodIn wsX5_correct wsX5_needPainter := goodIn_ca (goodIn_r _ [12, 8, 9] (by decide +kernel) (by decide +kernel)) (goodIn_sub (fun _ h => List.mem_cons_of_mem _ (List.mem_append_right _ h)) (by decide +kernel))
set_option maxRecDepth 20000 in
theorem gX5_correct_X5_needPainter : GoodIn wsX5_correct (va_wsS RX5 63 yX5_needPainter wsX5_needPainter) := goodIn_app (goodIn_of _ (by decide +kernel)) ggX5_correct_X5_needPainter
set_option maxRecDepth 20000 in
theorem ggX5_correct_X3_save : GoodIn wsX5_correct wsX3_save := goodIn_r _ [17, 18, 19, 20, 21, 22, 16, 23, 24, 25, 26, 27, 28, 29, 30, 31, 32, 33, 34, 35, 36, 37, 38, 39, 40, 41, 42, 84, 85, 86, 87, 74, 75, 76, 77, 78, 79, 80, 81, 82, 83] (by decide +kernel) (by decide +kernel)
set_option maxRecDepth 20000 in
theorem gX5_correct_X3_save : GoodIn wsX5_correct (wsV RX5 45 RX3 yX3_save wsX3_save) := goodIn_app (goodIn_of _ (by decide +kernel)) ggX5_correct_X3_save
set_option maxRecDepth 20000 in
theorem ggX5_correct_X0_makeReadable : GoodIn wsX5_correct wsX0_makeReadable := goodIn_r _ [46, 38, 39, 42, 29, 41, 47, 48, 49, 27, 50, 37, 51, 52, 53, 54, 55, 56, 57, 58, 59, 60, 61, 62, 63, 64, 65, 66, 67, 68, 36, 35, 69, 74, 75, 76, 77, 78, 79, 80, 81, 82, 83] (by decide +kernel) (by decide +kernel)
set_option maxRecDepth 20000 in
theorem gX5_correct_X0_makeReadable : GoodIn wsX5_correct (wsV RX5 107 RX0 yX0_makeReadable wsX0_makeReadable) := goodIn_app (goodIn_of _ (by decide +kernel)) ggX5_correct_X0_makeReadable
theorem dX5_correct_0 : decode cX5_correct 0 = .ok (.aload_n 0, 1) := by decide +kernel
theorem dX5_correct_1 : decode cX5_correct 1 = .ok (.iload_n 1, 1) := by decide +kernel
theorem dX5_correct_2 : decode cX5_correct 2 = .ok (.invokevirtual 92, 3) := by decide +kernel
theorem dX5_correct_5 : decode cX5_correct 5 = .ok (.iload_n 2, 1) := by decide +kernel
theorem dX5_correct_6 : decode cX5_correct 6 = .ok (.invokestatic 63, 3) := by decide +kernel
theorem dX5_correct_9 : decode cX5_correct 9 = .ok (.aload_n 0, 1) := by decide +kernel
theorem dX5_correct_10 : decode cX5_correct 10 = .ok (.getfield 19, 3) := by decide +kernel
theorem dX5_correct_13 : decode cX5_correct 13 = .ok (.aload_n 0, 1) := by decide +kernel
theorem dX5_correct_14 : decode cX5_correct 14 = .ok (.getfield 12, 3) := by decide +kernel
theorem dX5_correct_17 : decode cX5_correct 17 = .ok (.invokevirtual 45, 3) := by decide +kernel
theorem dX5_correct_20 : decode cX5_correct 20 = .ok (.aload_n 0, 1) := by decide +kernel
theorem dX5_correct_21 : decode cX5_correct 21 = .ok (.getfield 12, 3) := by decide +kernel
theorem dX5_correct_24 : decode cX5_correct 24 = .ok (.iload_n 1, 1) := by decide +kernel
theorem dX5_correct_25 : decode cX5_correct 25 = .ok (.iload_n 2, 1) := by decide +kernel
theorem dX5_correct_26 : decode cX5_correct 26 = .ok (.invokevirtual 107, 3) := by decide +kernel
theorem dX5_correct_29 : decode cX5_correct 29 = .ok (.ireturn, 1) := by decide +kernel
set_option maxRecDepth 20000 in
theorem ggX5_append_X5_needWithin : GoodIn wsX5_append wsX5_needWithin := goodIn_ca (goodIn_r _ [7, 8, 9] (by decide +kernel) (by decide +kernel)) (goodIn_sub (fun _ h => List.mem_cons_of_mem _ (List.mem_append_right _ h)) (by decide +kernel))
set_option maxRecDepth 20000 in
theorem gX5_append_X5_needWithin : GoodIn wsX5_append (va_wsS RX5 41 yX5_needWithin wsX5_needWithin) := goodIn_app (goodIn_of _ (by decide +kernel)) ggX5_append_X5_needWithin
set_option maxRecDepth 20000 in
theorem ggX5_append_X4_isFull : GoodIn wsX5_append wsX4_isFull := goodIn_r _ [14, 15, 25, 26] (by decide +kernel) (by decide +kernel)
set_option maxRecDepth 20000 in
theorem gX5_append_X4_isFull : GoodIn wsX5_append (wsV RX5 110 RX4 yX4_isFull wsX4_isFull) := goodIn_app (goodIn_of _ (by decide +kernel)) ggX5_append_X4_isFull
set_option maxRecDepth 20000 in
theorem ggX5_append_X4_add : GoodIn wsX5_append wsX4_add := goodIn_r _ [19, 15, 20, 25, 26] (by decide +kernel) (by decide +kernel)
set_option maxRecDepth 20000 in
theorem gX5_append_X4_add : GoodIn wsX5_append (wsV RX5 121 RX4 yX4_add wsX4_add) := goodIn_app (goodIn_of _ (by decide +kernel)) ggX5_append_X4_add
theorem dX5_append_0 : decode cX5_append 0 = .ok (.iload_n 1, 1) := by decide +kernel
theorem dX5_append_1 : decode cX5_append 1 = .ok (.bipush 33, 2) := by decide +kernel
theorem dX5_append_3 : decode cX5_append 3 = .ok (.bipush 126, 2) := by decide +kernel
theorem dX5_append_5 : decode cX5_append 5 = .ok (.invokestatic 41, 3) := by decide +kernel
theorem dX5_append_8 : decode cX5_append 8 = .ok (.aload_n 0, 1) := by decide +kernel
theorem dX5_append_9 : decode cX5_append 9 = .ok (.getfield 26, 3) := by decide +kernel
theorem dX5_append_12 : decode cX5_append 12 = .ok (.invokevirtual 110, 3) := by decide +kernel
theorem dX5_append_15 : decode cX5_append 15 = .ok (.ifCond .eq 13, 3) := by decide +kernel
theorem dX5_append_18 : decode cX5_append 18 = .ok (.new 114, 3) := by decide +kernel
theorem dX5_append_21 : decode cX5_append 21 = .ok (.dup, 1) := by decide +kernel
theorem dX5_append_22 : decode cX5_append 22 = .ok (.ldc 116, 2) := by decide +kernel
theorem dX5_append_24 : decode cX5_append 24 = .ok (.invokespecial 118, 3) := by decide +kernel
theorem dX5_append_27 : decode cX5_append 27 = .ok (.athrow, 1) := by decide +kernel
theorem dX5_append_28 : decode cX5_append 28 = .ok (.aload_n 0, 1) := by decide +kernel
theorem dX5_append_29 : decode cX5_append 29 = .ok (.getfield 26, 3) := by decide +kernel
theorem dX5_append_32 : decode cX5_append 32 = .ok (.iload_n 1, 1) := by decide +kernel
theorem dX5_append_33 : decode cX5_append 33 = .ok (.invokevirtual 121, 3) := by decide +kernel
theorem dX5_append_36 : decode cX5_append 36 = .ok (.aload_n 0, 1) := by decide +kernel
theorem dX5_append_37 : decode cX5_append 37 = .ok (.getfield 26, 3) := by decide +kernel
theorem dX5_append_40 : decode cX5_append 40 = .ok (.getfield 124, 3) := by decide +kernel
theorem dX5_append_43 : decode cX5_append 43 = .ok (.ireturn, 1) := by decide +kernel
set_option maxRecDepth 20000 in
theorem ggX5_clearBuffer_X4_clear : GoodIn wsX5_clearBuffer wsX4_clear := goodIn_r _ [6, 7, 12, 13] (by decide +kernel) (by decide +kernel)
set_option maxRecDepth 20000 in
theorem gX5_clearBuffer_X4_clear : GoodIn wsX5_clearBuffer (wsV RX5 128 RX4 yX4_clear wsX4_clear) := goodIn_app (goodIn_of _ (by decide +kernel)) ggX5_clearBuffer_X4_clear
theorem dX5_clearBuffer_0 : decode cX5_clearBuffer 0 = .ok (.aload_n 0, 1) := by decide +kernel
theorem dX5_clearBuffer_1 : decode cX5_clearBuffer 1 = .ok (.getfield 26, 3) := by decide +kernel
theorem dX5_clearBuffer_4 : decode cX5_clearBuffer 4 = .ok (.getfield 124, 3) := by decide +kernel
theorem dX5_clearBuffer_7 : decode cX5_clearBuffer 7 = .ok (.istore_n 1, 1) := by decide +kernel
theorem dX5_clearBuffer_8 : decode cX5_clearBuffer 8 = .ok (.aload_n 0, 1) := by decide +kernel
theorem dX5_clearBuffer_9 : decode cX5_clearBuffer 9 = .ok (.getfield 26, 3) := by decide +kernel
theorem dX5_clearBuffer_12 : decode cX5_clearBuffer 12 = .ok (.invokevirtual 128, 3) := by decide +kernel
theorem dX5_clearBuffer_15 : decode cX5_clearBuffer 15 = .ok (.iload_n 1, 1) := by decide +kernel
theorem dX5_clearBuffer_16 : decode cX5_clearBuffer 16 = .ok (.ireturn, 1) := by decide +kernel
set_option maxRecDepth 20000 in
theorem ggX5_load_X4_tellsPots : GoodIn wsX5_load wsX4_tellsPots := goodIn_r _ [10, 11, 12, 13, 14, 9, 15, 16, 17, 18, 19, 91, 92] (by decide +kernel) (by decide +kernel)
set_option maxRecDepth 20000 in
theorem gX5_load_X4_tellsPots : GoodIn wsX5_load (wsV RX5 134 RX4 yX4_tellsPots wsX4_tellsPots) := goodIn_app (goodIn_of _ (by decide +kernel)) ggX5_load_X4_tellsPots
set_option maxRecDepth 20000 in
theorem ggX5_load_X3_save : GoodIn wsX5_load wsX3_save := goodIn_r _ [24, 25, 26, 27, 28, 29, 23, 30, 31, 32, 33, 34, 35, 36, 37, 38, 39, 40, 41, 42, 43, 44, 45, 46, 47, 48, 49, 93, 94, 95, 96, 81, 82, 83, 84, 85, 86, 87, 88, 89, 90] (by decide +kernel) (by decide +kernel)
set_option maxRecDepth 20000 in
theorem gX5_load_X3_save : GoodIn wsX5_load (wsV RX5 45 RX3 yX3_save wsX3_save) := goodIn_app (goodIn_of _ (by decide +kernel)) ggX5_load_X3_save
set_option maxRecDepth 20000 in
theorem ggX5_load_X4_giveColours : GoodIn wsX5_load wsX4_giveColours := goodIn_r _ [53, 11, 16, 91, 92, 81, 82, 83, 84, 85, 86, 87, 88, 89, 90] (by decide +kernel) (by decide +kernel)
set_option maxRecDepth 20000 in
theorem gX5_load_X4_giveColours : GoodIn wsX5_load (wsV RX5 142 RX4 yX4_giveColours wsX4_giveColours) := goodIn_app (goodIn_of _ (by decide +kernel)) ggX5_load_X4_giveColours
set_option maxRecDepth 20000 in
theorem ggX5_load_X4_clear : GoodIn wsX5_load wsX4_clear := goodIn_r _ [57, 11, 91, 92] (by decide +kernel) (by decide +kernel)
set_option maxRecDepth 20000 in
theorem gX5_load_X4_clear : GoodIn wsX5_load (wsV RX5 128 RX4 yX4_clear wsX4_clear) := goodIn_app (goodIn_of _ (by decide +kernel)) ggX5_load_X4_clear
set_option maxRecDepth 20000 in
theorem ggX5_load_X0_pairsTold : GoodIn wsX5_load wsX0_pairsTold := goodIn_r _ [61, 36, 62, 63, 64, 34, 65, 43, 42, 66, 67, 68, 69, 70, 71, 72, 73, 74, 75, 76, 81, 82, 83, 84, 85, 86, 87, 88, 89, 90] (by decide +kernel) (by decide +kernel)
set_option maxRecDepth 20000 in
theorem gX5_load_X0_pairsTold : GoodIn wsX5_load (wsV RX5 145 RX0 yX0_pairsTold wsX0_pairsTold) := goodIn_app (goodIn_of _ (by decide +kernel)) ggX5_load_X0_pairsTold
theorem dX5_load_0 : decode cX5_load 0 = .ok (.aload_n 0, 1) := by decide +kernel
theorem dX5_load_1 : decode cX5_load 1 = .ok (.getfield 26, 3) := by decide +kernel
theorem dX5_load_4 : decode cX5_load 4 = .ok (.invokevirtual 134, 3) := by decide +kernel
theorem dX5_load_7 : decode cX5_load 7 = .ok (.ifCond .ne 13, 3) := by decide +kernel
theorem dX5_load_10 : decode cX5_load 10 = .ok (.new 137, 3) := by decide +kernel
theorem dX5_load_13 : decode cX5_load 13 = .ok (.dup, 1) := by decide +kernel
theorem dX5_load_14 : decode cX5_load 14 = .ok (.ldc 139, 2) := by decide +kernel
theorem dX5_load_16 : decode cX5_load 16 = .ok (.invokespecial 141, 3) := by decide +kernel
theorem dX5_load_19 : decode cX5_load 19 = .ok (.athrow, 1) := by decide +kernel
theorem dX5_load_20 : decode cX5_load 20 = .ok (.aload_n 0, 1) := by decide +kernel
theorem dX5_load_21 : decode cX5_load 21 = .ok (.getfield 19, 3) := by decide +kernel
theorem dX5_load_24 : decode cX5_load 24 = .ok (.aload_n 0, 1) := by decide +kernel
theorem dX5_load_25 : decode cX5_load 25 = .ok (.getfield 12, 3) := by decide +kernel
theorem dX5_load_28 : decode cX5_load 28 = .ok (.invokevirtual 45, 3) := by decide +kernel
theorem dX5_load_31 : decode cX5_load 31 = .ok (.aload_n 0, 1) := by decide +kernel
theorem dX5_load_32 : decode cX5_load 32 = .ok (.getfield 26, 3) := by decide +kernel
theorem dX5_load_35 : decode cX5_load 35 = .ok (.aload_n 0, 1) := by decide +kernel
theorem dX5_load_36 : decode cX5_load 36 = .ok (.getfield 12, 3) := by decide +kernel
theorem dX5_load_39 : decode cX5_load 39 = .ok (.invokevirtual 142, 3) := by decide +kernel
theorem dX5_load_42 : decode cX5_load 42 = .ok (.aload_n 0, 1) := by decide +kernel
theorem dX5_load_43 : decode cX5_load 43 = .ok (.getfield 26, 3) := by decide +kernel
theorem dX5_load_46 : decode cX5_load 46 = .ok (.invokevirtual 128, 3) := by decide +kernel
theorem dX5_load_49 : decode cX5_load 49 = .ok (.aload_n 0, 1) := by decide +kernel
theorem dX5_load_50 : decode cX5_load 50 = .ok (.getfield 12, 3) := by decide +kernel
theorem dX5_load_53 : decode cX5_load 53 = .ok (.iconst 0, 1) := by decide +kernel
theorem dX5_load_54 : decode cX5_load 54 = .ok (.aload_n 0, 1) := by decide +kernel
theorem dX5_load_55 : decode cX5_load 55 = .ok (.getfield 12, 3) := by decide +kernel
theorem dX5_load_58 : decode cX5_load 58 = .ok (.getfield 72, 3) := by decide +kernel
theorem dX5_load_61 : decode cX5_load 61 = .ok (.iconst 0, 1) := by decide +kernel
theorem dX5_load_62 : decode cX5_load 62 = .ok (.iaload, 1) := by decide +kernel
theorem dX5_load_63 : decode cX5_load 63 = .ok (.invokevirtual 145, 3) := by decide +kernel
theorem dX5_load_66 : decode cX5_load 66 = .ok (.ireturn, 1) := by decide +kernel
set_option maxRecDepth 20000 in
theorem ggX5_undo_X3_restore : GoodIn wsX5_undo wsX3_restore := goodIn_r _ [9, 10, 11, 12, 13, 14, 15, 16, 17, 18, 19, 20, 21, 22, 23, 24, 25, 26, 27, 28, 29, 30, 35, 36, 37, 38, 39, 40, 41, 42, 43, 44, 45, 46, 47, 48] (by decide +kernel) (by decide +kernel)
set_option maxRecDepth 20000 in
theorem gX5_undo_X3_restore : GoodIn wsX5_undo (wsV RX5 169 RX3 yX3_restore wsX3_restore) := goodIn_app (goodIn_of _ (by decide +kernel)) ggX5_undo_X3_restore
theorem dX5_undo_0 : decode cX5_undo 0 = .ok (.aload_n 0, 1) := by decide +kernel
theorem dX5_undo_1 : decode cX5_undo 1 = .ok (.getfield 19, 3) := by decide +kernel
theorem dX5_undo_4 : decode cX5_undo 4 = .ok (.getfield 164, 3) := by decide +kernel
theorem dX5_undo_7 : decode cX5_undo 7 = .ok (.ifCond .gt 13, 3) := by decide +kernel
theorem dX5_undo_10 : decode cX5_undo 10 = .ok (.new 114, 3) := by decide +kernel
theorem dX5_undo_13 : decode cX5_undo 13 = .ok (.dup, 1) := by decide +kernel
theorem dX5_undo_14 : decode cX5_undo 14 = .ok (.ldc 167, 2) := by decide +kernel
theorem dX5_undo_16 : decode cX5_undo 16 = .ok (.invokespecial 118, 3) := by decide +kernel
theorem dX5_undo_19 : decode cX5_undo 19 = .ok (.athrow, 1) := by decide +kernel
theorem dX5_undo_20 : decode cX5_undo 20 = .ok (.aload_n 0, 1) := by decide +kernel
theorem dX5_undo_21 : decode cX5_undo 21 = .ok (.getfield 19, 3) := by decide +kernel
theorem dX5_undo_24 : decode cX5_undo 24 = .ok (.aload_n 0, 1) := by decide +kernel
theorem dX5_undo_25 : decode cX5_undo 25 = .ok (.getfield 12, 3) := by decide +kernel
theorem dX5_undo_28 : decode cX5_undo 28 = .ok (.invokevirtual 169, 3) := by decide +kernel
theorem dX5_undo_31 : decode cX5_undo 31 = .ok (.aload_n 0, 1) := by decide +kernel
theorem dX5_undo_32 : decode cX5_undo 32 = .ok (.getfield 19, 3) := by decide +kernel
theorem dX5_undo_35 : decode cX5_undo 35 = .ok (.getfield 164, 3) := by decide +kernel
theorem dX5_undo_38 : decode cX5_undo 38 = .ok (.ireturn, 1) := by decide +kernel
set_option maxRecDepth 20000 in
theorem ggX5_potOf_X5_needPot : GoodIn wsX5_potOf wsX5_needPot := goodIn_ca (goodIn_r _ [5, 6, 7] (by decide +kernel) (by decide +kernel)) (goodIn_sub (fun _ h => List.mem_cons_of_mem _ (List.mem_append_left _ (List.mem_append_right _ h))) (by decide +kernel))
set_option maxRecDepth 20000 in
theorem gX5_potOf_X5_needPot : GoodIn wsX5_potOf (va_wsS RX5 37 yX5_needPot wsX5_needPot) := goodIn_app (goodIn_of _ (by decide +kernel)) ggX5_potOf_X5_needPot
set_option maxRecDepth 20000 in
theorem ggX5_potOf_X5_needWithin : GoodIn wsX5_potOf wsX5_needWithin := goodIn_ca (goodIn_r _ [10, 11, 12] (by decide +kernel) (by decide +kernel)) (goodIn_sub (fun _ h => List.mem_cons_of_mem _ (List.mem_append_right _ h)) (by decide +kernel))
set_option maxRecDepth 20000 in
theorem gX5_potOf_X5_needWithin : GoodIn wsX5_potOf (va_wsS RX5 41 yX5_needWithin wsX5_needWithin) := goodIn_app (goodIn_of _ (by decide +kernel)) ggX5_potOf_X5_needWithin
set_option maxRecDepth 20000 in
theorem ggX5_potOf_X1_partOf : GoodIn wsX5_potOf wsX1_partOf := goodIn_r _ [16] (by decide +kernel) (by decide +kernel)
set_option maxRecDepth 20000 in
theorem gX5_potOf_X1_partOf : GoodIn wsX5_potOf (va_wsS RX5 53 yX1_partOf wsX1_partOf) := goodIn_app (goodIn_of _ (by decide +kernel)) ggX5_potOf_X1_partOf
set_option maxRecDepth 20000 in
theorem ggX5_potOf_X0_tellersOf : GoodIn wsX5_potOf wsX0_tellersOf := goodIn_r _ [21, 22, 23, 24, 20, 25, 26, 27, 28, 29, 30, 31, 32, 33, 34, 35, 15, 36, 37, 38, 39, 40, 41, 42, 43, 48, 49, 50, 51, 52, 53, 54, 55, 56, 57] (by decide +kernel) (by decide +kernel)
set_option maxRecDepth 20000 in
theorem gX5_potOf_X0_tellersOf : GoodIn wsX5_potOf (wsV RX5 172 RX0 yX0_tellersOf wsX0_tellersOf) := goodIn_app (goodIn_of _ (by decide +kernel)) ggX5_potOf_X0_tellersOf
theorem dX5_potOf_0 : decode cX5_potOf 0 = .ok (.iload_n 1, 1) := by decide +kernel
theorem dX5_potOf_1 : decode cX5_potOf 1 = .ok (.invokestatic 37, 3) := by decide +kernel
theorem dX5_potOf_4 : decode cX5_potOf 4 = .ok (.iload_n 2, 1) := by decide +kernel
theorem dX5_potOf_5 : decode cX5_potOf 5 = .ok (.iconst 0, 1) := by decide +kernel
theorem dX5_potOf_6 : decode cX5_potOf 6 = .ok (.iconst 4, 1) := by decide +kernel
theorem dX5_potOf_7 : decode cX5_potOf 7 = .ok (.invokestatic 41, 3) := by decide +kernel
theorem dX5_potOf_10 : decode cX5_potOf 10 = .ok (.iload_n 2, 1) := by decide +kernel
theorem dX5_potOf_11 : decode cX5_potOf 11 = .ok (.iconst 3, 1) := by decide +kernel
theorem dX5_potOf_12 : decode cX5_potOf 12 = .ok (.if_icmp .ge 17, 3) := by decide +kernel
theorem dX5_potOf_15 : decode cX5_potOf 15 = .ok (.aload_n 0, 1) := by decide +kernel
theorem dX5_potOf_16 : decode cX5_potOf 16 = .ok (.getfield 12, 3) := by decide +kernel
theorem dX5_potOf_19 : decode cX5_potOf 19 = .ok (.getfield 49, 3) := by decide +kernel
theorem dX5_potOf_22 : decode cX5_potOf 22 = .ok (.iload_n 1, 1) := by decide +kernel
theorem dX5_potOf_23 : decode cX5_potOf 23 = .ok (.iaload, 1) := by decide +kernel
theorem dX5_potOf_24 : decode cX5_potOf 24 = .ok (.iload_n 2, 1) := by decide +kernel
theorem dX5_potOf_25 : decode cX5_potOf 25 = .ok (.invokestatic 53, 3) := by decide +kernel
theorem dX5_potOf_28 : decode cX5_potOf 28 = .ok (.ireturn, 1) := by decide +kernel
theorem dX5_potOf_29 : decode cX5_potOf 29 = .ok (.iload_n 2, 1) := by decide +kernel
theorem dX5_potOf_30 : decode cX5_potOf 30 = .ok (.iconst 3, 1) := by decide +kernel
theorem dX5_potOf_31 : decode cX5_potOf 31 = .ok (.if_icmp .ne 15, 3) := by decide +kernel
theorem dX5_potOf_34 : decode cX5_potOf 34 = .ok (.aload_n 0, 1) := by decide +kernel
theorem dX5_potOf_35 : decode cX5_potOf 35 = .ok (.getfield 12, 3) := by decide +kernel
theorem dX5_potOf_38 : decode cX5_potOf 38 = .ok (.getfield 75, 3) := by decide +kernel
theorem dX5_potOf_41 : decode cX5_potOf 41 = .ok (.iload_n 1, 1) := by decide +kernel
theorem dX5_potOf_42 : decode cX5_potOf 42 = .ok (.iaload, 1) := by decide +kernel
theorem dX5_potOf_43 : decode cX5_potOf 43 = .ok (.goto 11, 3) := by decide +kernel
theorem dX5_potOf_46 : decode cX5_potOf 46 = .ok (.aload_n 0, 1) := by decide +kernel
theorem dX5_potOf_47 : decode cX5_potOf 47 = .ok (.getfield 12, 3) := by decide +kernel
theorem dX5_potOf_50 : decode cX5_potOf 50 = .ok (.iload_n 1, 1) := by decide +kernel
theorem dX5_potOf_51 : decode cX5_potOf 51 = .ok (.invokevirtual 172, 3) := by decide +kernel
theorem dX5_potOf_54 : decode cX5_potOf 54 = .ok (.ireturn, 1) := by decide +kernel
set_option maxRecDepth 20000 in
theorem ggX5_seen_X5_needPainter : GoodIn wsX5_seen wsX5_needPainter := goodIn_ca (goodIn_r _ [5, 6, 7] (by decide +kernel) (by decide +kernel)) (goodIn_sub (fun _ h => List.mem_cons_of_mem _ (List.mem_append_right _ h)) (by decide +kernel))
set_option maxRecDepth 20000 in
theorem gX5_seen_X5_needPainter : GoodIn wsX5_seen (va_wsS RX5 63 yX5_needPainter wsX5_needPainter) := goodIn_app (goodIn_of _ (by decide +kernel)) ggX5_seen_X5_needPainter
set_option maxRecDepth 20000 in
theorem ggX5_seen_X5_needPot : GoodIn wsX5_seen wsX5_needPot := goodIn_ca (goodIn_r _ [10, 6, 7] (by decide +kernel) (by decide +kernel)) (goodIn_sub (fun _ h => List.mem_cons_of_mem _ (List.mem_append_right _ h)) (by decide +kernel))
set_option maxRecDepth 20000 in
theorem gX5_seen_X5_needPot : GoodIn wsX5_seen (va_wsS RX5 37 yX5_needPot wsX5_needPot) := goodIn_app (goodIn_of _ (by decide +kernel)) ggX5_seen_X5_needPot
set_option maxRecDepth 20000 in
theorem ggX5_seen_X1_seenAs : GoodIn wsX5_seen wsX1_seenAs := goodIn_r _ [14] (by decide +kernel) (by decide +kernel)
set_option maxRecDepth 20000 in
theorem gX5_seen_X1_seenAs : GoodIn wsX5_seen (va_wsS RX5 175 yX1_seenAs wsX1_seenAs) := goodIn_app (goodIn_of _ (by decide +kernel)) ggX5_seen_X1_seenAs
theorem dX5_seen_0 : decode cX5_seen 0 = .ok (.iload_n 1, 1) := by decide +kernel
theorem dX5_seen_1 : decode cX5_seen 1 = .ok (.invokestatic 63, 3) := by decide +kernel
theorem dX5_seen_4 : decode cX5_seen 4 = .ok (.iload_n 2, 1) := by decide +kernel
theorem dX5_seen_5 : decode cX5_seen 5 = .ok (.invokestatic 37, 3) := by decide +kernel
theorem dX5_seen_8 : decode cX5_seen 8 = .ok (.aload_n 0, 1) := by decide +kernel
theorem dX5_seen_9 : decode cX5_seen 9 = .ok (.getfield 12, 3) := by decide +kernel
theorem dX5_seen_12 : decode cX5_seen 12 = .ok (.getfield 66, 3) := by decide +kernel
theorem dX5_seen_15 : decode cX5_seen 15 = .ok (.iload_n 1, 1) := by decide +kernel
theorem dX5_seen_16 : decode cX5_seen 16 = .ok (.iaload, 1) := by decide +kernel
theorem dX5_seen_17 : decode cX5_seen 17 = .ok (.aload_n 0, 1) := by decide +kernel
theorem dX5_seen_18 : decode cX5_seen 18 = .ok (.getfield 12, 3) := by decide +kernel
theorem dX5_seen_21 : decode cX5_seen 21 = .ok (.getfield 49, 3) := by decide +kernel
theorem dX5_seen_24 : decode cX5_seen 24 = .ok (.iload_n 2, 1) := by decide +kernel
theorem dX5_seen_25 : decode cX5_seen 25 = .ok (.iaload, 1) := by decide +kernel
theorem dX5_seen_26 : decode cX5_seen 26 = .ok (.invokestatic 175, 3) := by decide +kernel
theorem dX5_seen_29 : decode cX5_seen 29 = .ok (.ireturn, 1) := by decide +kernel
set_option maxRecDepth 20000 in
theorem ggX5_painterOf_X5_needPainter : GoodIn wsX5_painterOf wsX5_needPainter := goodIn_ca (goodIn_r _ [7, 8, 9] (by decide +kernel) (by decide +kernel)) (goodIn_sub (fun _ h => List.mem_cons_of_mem _ (List.mem_append_right _ h)) (by decide +kernel))
set_option maxRecDepth 20000 in
theorem gX5_painterOf_X5_needPainter : GoodIn wsX5_painterOf (va_wsS RX5 63 yX5_needPainter wsX5_needPainter) := goodIn_app (goodIn_of _ (by decide +kernel)) ggX5_painterOf_X5_needPainter
set_option maxRecDepth 20000 in
theorem ggX5_painterOf_X0_pairsTold : GoodIn wsX5_painterOf wsX0_pairsTold := goodIn_r _ [14, 15, 16, 17, 18, 13, 19, 20, 21, 22, 23, 24, 25, 26, 27, 28, 29, 30, 31, 32, 54, 55, 56, 57, 58, 59, 60, 61, 62, 63] (by decide +kernel) (by decide +kernel)
set_option maxRecDepth 20000 in
theorem gX5_painterOf_X0_pairsTold : GoodIn wsX5_painterOf (wsV RX5 145 RX0 yX0_pairsTold wsX0_pairsTold) := goodIn_app (goodIn_of _ (by decide +kernel)) ggX5_painterOf_X0_pairsTold
set_option maxRecDepth 20000 in
theorem ggX5_painterOf_X0_wrongPairs : GoodIn wsX5_painterOf wsX0_wrongPairs := goodIn_r _ [36, 37, 38, 39, 40, 13, 41, 42, 15, 16, 17, 18, 19, 20, 21, 22, 23, 24, 25, 26, 27, 28, 29, 30, 31, 32, 54, 55, 56, 57, 58, 59, 60, 61, 62, 63] (by decide +kernel) (by decide +kernel)
set_option maxRecDepth 20000 in
theorem gX5_painterOf_X0_wrongPairs : GoodIn wsX5_painterOf (wsV RX5 178 RX0 yX0_wrongPairs wsX0_wrongPairs) := goodIn_app (goodIn_of _ (by decide +kernel)) ggX5_painterOf_X0_wrongPairs
set_option maxRecDepth 20000 in
theorem ggX5_painterOf_X0_chartsRead : GoodIn wsX5_painterOf wsX0_chartsRead := goodIn_r _ [46, 47, 48, 49, 38, 39, 40, 13, 41, 42, 15, 16, 17, 18, 19, 20, 21, 22, 23, 24, 25, 26, 27, 28, 29, 30, 31, 32, 54, 55, 56, 57, 58, 59, 60, 61, 62, 63] (by decide +kernel) (by decide +kernel)
set_option maxRecDepth 20000 in
theorem gX5_painterOf_X0_chartsRead : GoodIn wsX5_painterOf (wsV RX5 181 RX0 yX0_chartsRead wsX0_chartsRead) := goodIn_app (goodIn_of _ (by decide +kernel)) ggX5_painterOf_X0_chartsRead
theorem dX5_painterOf_0 : decode cX5_painterOf 0 = .ok (.iload_n 1, 1) := by decide +kernel
theorem dX5_painterOf_1 : decode cX5_painterOf 1 = .ok (.invokestatic 63, 3) := by decide +kernel
theorem dX5_painterOf_4 : decode cX5_painterOf 4 = .ok (.iload_n 2, 1) := by decide +kernel
theorem dX5_painterOf_5 : decode cX5_painterOf 5 = .ok (.tableswitch 126 0 6 #[43, 53, 63, 73, 91, 100, 117], 43) := by decide +kernel
theorem dX5_painterOf_48 : decode cX5_painterOf 48 = .ok (.aload_n 0, 1) := by decide +kernel
theorem dX5_painterOf_49 : decode cX5_painterOf 49 = .ok (.getfield 12, 3) := by decide +kernel
theorem dX5_painterOf_52 : decode cX5_painterOf 52 = .ok (.getfield 66, 3) := by decide +kernel
theorem dX5_painterOf_55 : decode cX5_painterOf 55 = .ok (.iload_n 1, 1) := by decide +kernel
theorem dX5_painterOf_56 : decode cX5_painterOf 56 = .ok (.iaload, 1) := by decide +kernel
theorem dX5_painterOf_57 : decode cX5_painterOf 57 = .ok (.ireturn, 1) := by decide +kernel
theorem dX5_painterOf_58 : decode cX5_painterOf 58 = .ok (.aload_n 0, 1) := by decide +kernel
theorem dX5_painterOf_59 : decode cX5_painterOf 59 = .ok (.getfield 12, 3) := by decide +kernel
theorem dX5_painterOf_62 : decode cX5_painterOf 62 = .ok (.getfield 69, 3) := by decide +kernel
theorem dX5_painterOf_65 : decode cX5_painterOf 65 = .ok (.iload_n 1, 1) := by decide +kernel
theorem dX5_painterOf_66 : decode cX5_painterOf 66 = .ok (.iaload, 1) := by decide +kernel
theorem dX5_painterOf_67 : decode cX5_painterOf 67 = .ok (.ireturn, 1) := by decide +kernel
theorem dX5_painterOf_68 : decode cX5_painterOf 68 = .ok (.aload_n 0, 1) := by decide +kernel
theorem dX5_painterOf_69 : decode cX5_painterOf 69 = .ok (.getfield 12, 3) := by decide +kernel
theorem dX5_painterOf_72 : decode cX5_painterOf 72 = .ok (.getfield 72, 3) := by decide +kernel
theorem dX5_painterOf_75 : decode cX5_painterOf 75 = .ok (.iload_n 1, 1) := by decide +kernel
theorem dX5_painterOf_76 : decode cX5_painterOf 76 = .ok (.iaload, 1) := by decide +kernel
theorem dX5_painterOf_77 : decode cX5_painterOf 77 = .ok (.ireturn, 1) := by decide +kernel
theorem dX5_painterOf_78 : decode cX5_painterOf 78 = .ok (.aload_n 0, 1) := by decide +kernel
theorem dX5_painterOf_79 : decode cX5_painterOf 79 = .ok (.getfield 12, 3) := by decide +kernel
theorem dX5_painterOf_82 : decode cX5_painterOf 82 = .ok (.iload_n 1, 1) := by decide +kernel
theorem dX5_painterOf_83 : decode cX5_painterOf 83 = .ok (.aload_n 0, 1) := by decide +kernel
theorem dX5_painterOf_84 : decode cX5_painterOf 84 = .ok (.getfield 12, 3) := by decide +kernel
theorem dX5_painterOf_87 : decode cX5_painterOf 87 = .ok (.getfield 72, 3) := by decide +kernel
theorem dX5_painterOf_90 : decode cX5_painterOf 90 = .ok (.iload_n 1, 1) := by decide +kernel
theorem dX5_painterOf_91 : decode cX5_painterOf 91 = .ok (.iaload, 1) := by decide +kernel
theorem dX5_painterOf_92 : decode cX5_painterOf 92 = .ok (.invokevirtual 145, 3) := by decide +kernel
theorem dX5_painterOf_95 : decode cX5_painterOf 95 = .ok (.ireturn, 1) := by decide +kernel
theorem dX5_painterOf_96 : decode cX5_painterOf 96 = .ok (.aload_n 0, 1) := by decide +kernel
theorem dX5_painterOf_97 : decode cX5_painterOf 97 = .ok (.getfield 12, 3) := by decide +kernel
theorem dX5_painterOf_100 : decode cX5_painterOf 100 = .ok (.iload_n 1, 1) := by decide +kernel
theorem dX5_painterOf_101 : decode cX5_painterOf 101 = .ok (.invokevirtual 178, 3) := by decide +kernel
theorem dX5_painterOf_104 : decode cX5_painterOf 104 = .ok (.ireturn, 1) := by decide +kernel
theorem dX5_painterOf_105 : decode cX5_painterOf 105 = .ok (.aload_n 0, 1) := by decide +kernel
theorem dX5_painterOf_106 : decode cX5_painterOf 106 = .ok (.getfield 12, 3) := by decide +kernel
theorem dX5_painterOf_109 : decode cX5_painterOf 109 = .ok (.iload_n 1, 1) := by decide +kernel
theorem dX5_painterOf_110 : decode cX5_painterOf 110 = .ok (.invokevirtual 178, 3) := by decide +kernel
theorem dX5_painterOf_113 : decode cX5_painterOf 113 = .ok (.ifCond .ne 7, 3) := by decide +kernel
theorem dX5_painterOf_116 : decode cX5_painterOf 116 = .ok (.iconst 1, 1) := by decide +kernel
theorem dX5_painterOf_117 : decode cX5_painterOf 117 = .ok (.goto 4, 3) := by decide +kernel
theorem dX5_painterOf_120 : decode cX5_painterOf 120 = .ok (.iconst 0, 1) := by decide +kernel
theorem dX5_painterOf_121 : decode cX5_painterOf 121 = .ok (.ireturn, 1) := by decide +kernel
theorem dX5_painterOf_122 : decode cX5_painterOf 122 = .ok (.aload_n 0, 1) := by decide +kernel
theorem dX5_painterOf_123 : decode cX5_painterOf 123 = .ok (.getfield 12, 3) := by decide +kernel
theorem dX5_painterOf_126 : decode cX5_painterOf 126 = .ok (.iload_n 1, 1) := by decide +kernel
theorem dX5_painterOf_127 : decode cX5_painterOf 127 = .ok (.invokevirtual 181, 3) := by decide +kernel
theorem dX5_painterOf_130 : decode cX5_painterOf 130 = .ok (.ireturn, 1) := by decide +kernel
theorem dX5_painterOf_131 : decode cX5_painterOf 131 = .ok (.new 137, 3) := by decide +kernel
theorem dX5_painterOf_134 : decode cX5_painterOf 134 = .ok (.dup, 1) := by decide +kernel
theorem dX5_painterOf_135 : decode cX5_painterOf 135 = .ok (.ldc 184, 2) := by decide +kernel
theorem dX5_painterOf_137 : decode cX5_painterOf 137 = .ok (.invokespecial 141, 3) := by decide +kernel
theorem dX5_painterOf_140 : decode cX5_painterOf 140 = .ok (.athrow, 1) := by decide +kernel
set_option maxRecDepth 20000 in
theorem ggX5_apart_X5_needPainter : GoodIn wsX5_apart wsX5_needPainter := goodIn_ca (goodIn_r _ [5, 6, 7] (by decide +kernel) (by decide +kernel)) (goodIn_sub (fun _ h => List.mem_cons_of_mem _ (List.mem_append_right _ h)) (by decide +kernel))
set_option maxRecDepth 20000 in
theorem gX5_apart_X5_needPainter : GoodIn wsX5_apart (va_wsS RX5 63 yX5_needPainter wsX5_needPainter) := goodIn_app (goodIn_of _ (by decide +kernel)) ggX5_apart_X5_needPainter
set_option maxRecDepth 20000 in
theorem ggX5_apart_X5_needPot : GoodIn wsX5_apart wsX5_needPot := goodIn_ca (goodIn_r _ [10, 6, 7] (by decide +kernel) (by decide +kernel)) (goodIn_sub (fun _ h => List.mem_cons_of_mem _ (List.mem_append_right _ h)) (by decide +kernel))
set_option maxRecDepth 20000 in
theorem gX5_apart_X5_needPot : GoodIn wsX5_apart (va_wsS RX5 37 yX5_needPot wsX5_needPot) := goodIn_app (goodIn_of _ (by decide +kernel)) ggX5_apart_X5_needPot
set_option maxRecDepth 20000 in
theorem ggX5_apart_X0_tells : GoodIn wsX5_apart wsX0_tells := goodIn_r _ [15, 16, 17, 18, 19, 20, 14, 21, 22, 23, 24, 25, 26, 27, 28, 29, 30, 31, 32, 33, 34, 39, 40, 41, 42, 43, 44, 45, 46, 47, 48] (by decide +kernel) (by decide +kernel)
set_option maxRecDepth 20000 in
theorem gX5_apart_X0_tells : GoodIn wsX5_apart (wsV RX5 186 RX0 yX0_tells wsX0_tells) := goodIn_app (goodIn_of _ (by decide +kernel)) ggX5_apart_X0_tells
theorem dX5_apart_0 : decode cX5_apart 0 = .ok (.iload_n 1, 1) := by decide +kernel
theorem dX5_apart_1 : decode cX5_apart 1 = .ok (.invokestatic 63, 3) := by decide +kernel
theorem dX5_apart_4 : decode cX5_apart 4 = .ok (.iload_n 2, 1) := by decide +kernel
theorem dX5_apart_5 : decode cX5_apart 5 = .ok (.invokestatic 37, 3) := by decide +kernel
theorem dX5_apart_8 : decode cX5_apart 8 = .ok (.iload_n 3, 1) := by decide +kernel
theorem dX5_apart_9 : decode cX5_apart 9 = .ok (.invokestatic 37, 3) := by decide +kernel
theorem dX5_apart_12 : decode cX5_apart 12 = .ok (.aload_n 0, 1) := by decide +kernel
theorem dX5_apart_13 : decode cX5_apart 13 = .ok (.getfield 12, 3) := by decide +kernel
theorem dX5_apart_16 : decode cX5_apart 16 = .ok (.iload_n 1, 1) := by decide +kernel
theorem dX5_apart_17 : decode cX5_apart 17 = .ok (.iload_n 2, 1) := by decide +kernel
theorem dX5_apart_18 : decode cX5_apart 18 = .ok (.iload_n 3, 1) := by decide +kernel
theorem dX5_apart_19 : decode cX5_apart 19 = .ok (.invokevirtual 186, 3) := by decide +kernel
theorem dX5_apart_22 : decode cX5_apart 22 = .ok (.ifCond .eq 7, 3) := by decide +kernel
theorem dX5_apart_25 : decode cX5_apart 25 = .ok (.iconst 1, 1) := by decide +kernel
theorem dX5_apart_26 : decode cX5_apart 26 = .ok (.goto 4, 3) := by decide +kernel
theorem dX5_apart_29 : decode cX5_apart 29 = .ok (.iconst 0, 1) := by decide +kernel
theorem dX5_apart_30 : decode cX5_apart 30 = .ok (.ireturn, 1) := by decide +kernel
set_option maxRecDepth 20000 in
theorem ggX5_chartOf_X5_needChart : GoodIn wsX5_chartOf wsX5_needChart := goodIn_ca (goodIn_r _ [8, 9, 10, 3, 41, 42, 43, 44, 45, 46, 47, 48, 49, 50, 51, 52, 53, 54] (by decide +kernel) (by decide +kernel)) (goodIn_sub (fun _ h => List.mem_cons_of_mem _ (List.mem_append_right _ h)) (by decide +kernel))
set_option maxRecDepth 20000 in
theorem gX5_chartOf_X5_needChart : GoodIn wsX5_chartOf (wsV RX5 92 RX5 yX5_needChart wsX5_needChart) := goodIn_app (goodIn_of _ (by decide +kernel)) ggX5_chartOf_X5_needChart
set_option maxRecDepth 20000 in
theorem ggX5_chartOf_X0_readersOf : GoodIn wsX5_chartOf wsX0_readersOf := goodIn_r _ [15, 16, 17, 18, 19, 20, 14, 21, 22, 23, 24, 25, 26, 27, 28, 29, 30, 31, 32, 33, 34, 35, 36, 37, 38, 39, 40, 45, 46, 47, 48, 49, 50, 51, 52, 53, 54] (by decide +kernel) (by decide +kernel)
set_option maxRecDepth 20000 in
theorem gX5_chartOf_X0_readersOf : GoodIn wsX5_chartOf (wsV RX5 95 RX0 yX0_readersOf wsX0_readersOf) := goodIn_app (goodIn_of _ (by decide +kernel)) ggX5_chartOf_X0_readersOf
theorem dX5_chartOf_0 : decode cX5_chartOf 0 = .ok (.aload_n 0, 1) := by decide +kernel
theorem dX5_chartOf_1 : decode cX5_chartOf 1 = .ok (.iload_n 1, 1) := by decide +kernel
theorem dX5_chartOf_2 : decode cX5_chartOf 2 = .ok (.invokevirtual 92, 3) := by decide +kernel
theorem dX5_chartOf_5 : decode cX5_chartOf 5 = .ok (.iload_n 2, 1) := by decide +kernel
theorem dX5_chartOf_6 : decode cX5_chartOf 6 = .ok (.tableswitch 55 0 2 #[26, 36, 46], 26) := by decide +kernel
theorem dX5_chartOf_32 : decode cX5_chartOf 32 = .ok (.aload_n 0, 1) := by decide +kernel
theorem dX5_chartOf_33 : decode cX5_chartOf 33 = .ok (.getfield 12, 3) := by decide +kernel
theorem dX5_chartOf_36 : decode cX5_chartOf 36 = .ok (.getfield 190, 3) := by decide +kernel
theorem dX5_chartOf_39 : decode cX5_chartOf 39 = .ok (.iload_n 1, 1) := by decide +kernel
theorem dX5_chartOf_40 : decode cX5_chartOf 40 = .ok (.iaload, 1) := by decide +kernel
theorem dX5_chartOf_41 : decode cX5_chartOf 41 = .ok (.ireturn, 1) := by decide +kernel
theorem dX5_chartOf_42 : decode cX5_chartOf 42 = .ok (.aload_n 0, 1) := by decide +kernel
theorem dX5_chartOf_43 : decode cX5_chartOf 43 = .ok (.getfield 12, 3) := by decide +kernel
theorem dX5_chartOf_46 : decode cX5_chartOf 46 = .ok (.getfield 193, 3) := by decide +kernel
theorem dX5_chartOf_49 : decode cX5_chartOf 49 = .ok (.iload_n 1, 1) := by decide +kernel
theorem dX5_chartOf_50 : decode cX5_chartOf 50 = .ok (.iaload, 1) := by decide +kernel
theorem dX5_chartOf_51 : decode cX5_chartOf 51 = .ok (.ireturn, 1) := by decide +kernel
theorem dX5_chartOf_52 : decode cX5_chartOf 52 = .ok (.aload_n 0, 1) := by decide +kernel
theorem dX5_chartOf_53 : decode cX5_chartOf 53 = .ok (.getfield 12, 3) := by decide +kernel
theorem dX5_chartOf_56 : decode cX5_chartOf 56 = .ok (.iload_n 1, 1) := by decide +kernel
theorem dX5_chartOf_57 : decode cX5_chartOf 57 = .ok (.invokevirtual 95, 3) := by decide +kernel
theorem dX5_chartOf_60 : decode cX5_chartOf 60 = .ok (.ireturn, 1) := by decide +kernel
theorem dX5_chartOf_61 : decode cX5_chartOf 61 = .ok (.new 137, 3) := by decide +kernel
theorem dX5_chartOf_64 : decode cX5_chartOf 64 = .ok (.dup, 1) := by decide +kernel
theorem dX5_chartOf_65 : decode cX5_chartOf 65 = .ok (.ldc 196, 2) := by decide +kernel
theorem dX5_chartOf_67 : decode cX5_chartOf 67 = .ok (.invokespecial 141, 3) := by decide +kernel
theorem dX5_chartOf_70 : decode cX5_chartOf 70 = .ok (.athrow, 1) := by decide +kernel
set_option maxRecDepth 20000 in
theorem ggX5_count_X0_labelled : GoodIn wsX5_count wsX0_labelled := goodIn_r _ [9, 10, 65, 66, 67, 68, 69, 70, 71, 72, 73, 74] (by decide +kernel) (by decide +kernel)
set_option maxRecDepth 20000 in
theorem gX5_count_X0_labelled : GoodIn wsX5_count (wsV RX5 159 RX0 yX0_labelled wsX0_labelled) := goodIn_app (goodIn_of _ (by decide +kernel)) ggX5_count_X0_labelled
set_option maxRecDepth 20000 in
theorem ggX5_count_X0_unlikeLabels : GoodIn wsX5_count wsX0_unlikeLabels := goodIn_r _ [14, 10, 15, 16, 17, 18, 19, 20, 21, 65, 66, 67, 68, 69, 70, 71, 72, 73, 74] (by decide +kernel) (by decide +kernel)
set_option maxRecDepth 20000 in
theorem gX5_count_X0_unlikeLabels : GoodIn wsX5_count (wsV RX5 81 RX0 yX0_unlikeLabels wsX0_unlikeLabels) := goodIn_app (goodIn_of _ (by decide +kernel)) ggX5_count_X0_unlikeLabels
set_option maxRecDepth 20000 in
theorem ggX5_count_X0_pairsToldByNobody : GoodIn wsX5_count wsX0_pairsToldByNobody := goodIn_r _ [25, 26, 27, 28, 8, 29, 30, 31, 32, 33, 34, 35, 36, 37, 38, 39, 40, 41, 42, 43, 44, 45, 46, 47, 48, 65, 66, 67, 68, 69, 70, 71, 72, 73, 74] (by decide +kernel) (by decide +kernel)
set_option maxRecDepth 20000 in
theorem gX5_count_X0_pairsToldByNobody : GoodIn wsX5_count (wsV RX5 201 RX0 yX0_pairsToldByNobody wsX0_pairsToldByNobody) := goodIn_app (goodIn_of _ (by decide +kernel)) ggX5_count_X0_pairsToldByNobody
set_option maxRecDepth 20000 in
theorem ggX5_count_X0_paintersServed : GoodIn wsX5_count wsX0_paintersServed := goodIn_r _ [52, 53, 54, 55, 8, 56, 10, 57, 58, 59, 60, 30, 31, 32, 33, 34, 35, 36, 37, 38, 39, 40, 41, 42, 43, 44, 45, 46, 47, 48, 65, 66, 67, 68, 69, 70, 71, 72, 73, 74] (by decide +kernel) (by decide +kernel)
set_option maxRecDepth 20000 in
theorem gX5_count_X0_paintersServed : GoodIn wsX5_count (wsV RX5 204 RX0 yX0_paintersServed wsX0_paintersServed) := goodIn_app (goodIn_of _ (by decide +kernel)) ggX5_count_X0_paintersServed
theorem dX5_count_0 : decode cX5_count 0 = .ok (.iload_n 1, 1) := by decide +kernel
theorem dX5_count_1 : decode cX5_count 1 = .ok (.tableswitch 111 0 7 #[47, 55, 63, 71, 79, 87, 95, 103], 47) := by decide +kernel
theorem dX5_count_48 : decode cX5_count 48 = .ok (.aload_n 0, 1) := by decide +kernel
theorem dX5_count_49 : decode cX5_count 49 = .ok (.getfield 12, 3) := by decide +kernel
theorem dX5_count_52 : decode cX5_count 52 = .ok (.invokevirtual 159, 3) := by decide +kernel
theorem dX5_count_55 : decode cX5_count 55 = .ok (.ireturn, 1) := by decide +kernel
theorem dX5_count_56 : decode cX5_count 56 = .ok (.aload_n 0, 1) := by decide +kernel
theorem dX5_count_57 : decode cX5_count 57 = .ok (.getfield 12, 3) := by decide +kernel
theorem dX5_count_60 : decode cX5_count 60 = .ok (.invokevirtual 81, 3) := by decide +kernel
theorem dX5_count_63 : decode cX5_count 63 = .ok (.ireturn, 1) := by decide +kernel
theorem dX5_count_64 : decode cX5_count 64 = .ok (.aload_n 0, 1) := by decide +kernel
theorem dX5_count_65 : decode cX5_count 65 = .ok (.getfield 12, 3) := by decide +kernel
theorem dX5_count_68 : decode cX5_count 68 = .ok (.getfield 198, 3) := by decide +kernel
theorem dX5_count_71 : decode cX5_count 71 = .ok (.ireturn, 1) := by decide +kernel
theorem dX5_count_72 : decode cX5_count 72 = .ok (.aload_n 0, 1) := by decide +kernel
theorem dX5_count_73 : decode cX5_count 73 = .ok (.getfield 12, 3) := by decide +kernel
theorem dX5_count_76 : decode cX5_count 76 = .ok (.invokevirtual 201, 3) := by decide +kernel
theorem dX5_count_79 : decode cX5_count 79 = .ok (.ireturn, 1) := by decide +kernel
theorem dX5_count_80 : decode cX5_count 80 = .ok (.aload_n 0, 1) := by decide +kernel
theorem dX5_count_81 : decode cX5_count 81 = .ok (.getfield 12, 3) := by decide +kernel
theorem dX5_count_84 : decode cX5_count 84 = .ok (.invokevirtual 204, 3) := by decide +kernel
theorem dX5_count_87 : decode cX5_count 87 = .ok (.ireturn, 1) := by decide +kernel
theorem dX5_count_88 : decode cX5_count 88 = .ok (.aload_n 0, 1) := by decide +kernel
theorem dX5_count_89 : decode cX5_count 89 = .ok (.getfield 12, 3) := by decide +kernel
theorem dX5_count_92 : decode cX5_count 92 = .ok (.getfield 207, 3) := by decide +kernel
theorem dX5_count_95 : decode cX5_count 95 = .ok (.ireturn, 1) := by decide +kernel
theorem dX5_count_96 : decode cX5_count 96 = .ok (.aload_n 0, 1) := by decide +kernel
theorem dX5_count_97 : decode cX5_count 97 = .ok (.getfield 12, 3) := by decide +kernel
theorem dX5_count_100 : decode cX5_count 100 = .ok (.getfield 210, 3) := by decide +kernel
theorem dX5_count_103 : decode cX5_count 103 = .ok (.ireturn, 1) := by decide +kernel
theorem dX5_count_104 : decode cX5_count 104 = .ok (.aload_n 0, 1) := by decide +kernel
theorem dX5_count_105 : decode cX5_count 105 = .ok (.getfield 19, 3) := by decide +kernel
theorem dX5_count_108 : decode cX5_count 108 = .ok (.getfield 164, 3) := by decide +kernel
theorem dX5_count_111 : decode cX5_count 111 = .ok (.ireturn, 1) := by decide +kernel
theorem dX5_count_112 : decode cX5_count 112 = .ok (.new 137, 3) := by decide +kernel
end
section
theorem dX5_count_115 : decode cX5_count 115 = .ok (.dup, 1) := by decide +kernel
theorem dX5_count_116 : decode cX5_count 116 = .ok (.ldc 213, 2) := by decide +kernel
theorem dX5_count_118 : decode cX5_count 118 = .ok (.invokespecial 141, 3) := by decide +kernel
theorem dX5_count_121 : decode cX5_count 121 = .ok (.athrow, 1) := by decide +kernel
set_option maxRecDepth 20000 in
theorem ggX5_fewest_X5_needPainter : GoodIn wsX5_fewest wsX5_needPainter := goodIn_ca (goodIn_r _ [6, 7, 8] (by decide +kernel) (by decide +kernel)) (goodIn_sub (fun _ h => List.mem_cons_of_mem _ (List.mem_append_left _ (List.mem_append_right _ h))) (by decide +kernel))
set_option maxRecDepth 20000 in
theorem gX5_fewest_X5_needPainter : GoodIn wsX5_fewest (va_wsS RX5 63 yX5_needPainter wsX5_needPainter) := goodIn_app (goodIn_of _ (by decide +kernel)) ggX5_fewest_X5_needPainter
set_option maxRecDepth 20000 in
theorem ggX5_fewest_X5_needWithin : GoodIn wsX5_fewest wsX5_needWithin := goodIn_ca (goodIn_r _ [11, 12, 13] (by decide +kernel) (by decide +kernel)) (goodIn_sub (fun _ h => List.mem_cons_of_mem _ (List.mem_append_right _ h)) (by decide +kernel))
set_option maxRecDepth 20000 in
theorem gX5_fewest_X5_needWithin : GoodIn wsX5_fewest (va_wsS RX5 41 yX5_needWithin wsX5_needWithin) := goodIn_app (goodIn_of _ (by decide +kernel)) ggX5_fewest_X5_needWithin
set_option maxRecDepth 20000 in
theorem ggX5_fewest_X2_look : GoodIn wsX5_fewest wsX2_look := goodIn_r _ [18, 19, 20, 21, 22, 23, 24, 25, 26, 27, 28, 29, 30, 31, 32, 33, 34, 35, 36, 37, 38, 39, 40, 41, 42, 43, 69, 70, 71, 72, 73, 74, 75, 76, 77, 78, 79, 80, 81, 82] (by decide +kernel) (by decide +kernel)
set_option maxRecDepth 20000 in
theorem gX5_fewest_X2_look : GoodIn wsX5_fewest (wsV RX5 215 RX2 yX2_look wsX2_look) := goodIn_app (goodIn_of _ (by decide +kernel)) ggX5_fewest_X2_look
set_option maxRecDepth 20000 in
theorem ggX5_fewest_X2_fewestBySets : GoodIn wsX5_fewest wsX2_fewestBySets := goodIn_r _ [47, 48, 49, 19, 50, 51, 52, 17, 53, 54, 55, 39, 56, 69, 70, 71, 72] (by decide +kernel) (by decide +kernel)
set_option maxRecDepth 20000 in
theorem gX5_fewest_X2_fewestBySets : GoodIn wsX5_fewest (wsV RX5 219 RX2 yX2_fewestBySets wsX2_fewestBySets) := goodIn_app (goodIn_of _ (by decide +kernel)) ggX5_fewest_X2_fewestBySets
set_option maxRecDepth 20000 in
theorem ggX5_fewest_X2_fewestByTrying : GoodIn wsX5_fewest wsX2_fewestByTrying := goodIn_r _ [60, 19, 61, 62, 63, 17, 64, 69, 70, 71, 72] (by decide +kernel) (by decide +kernel)
set_option maxRecDepth 20000 in
theorem gX5_fewest_X2_fewestByTrying : GoodIn wsX5_fewest (wsV RX5 222 RX2 yX2_fewestByTrying wsX2_fewestByTrying) := goodIn_app (goodIn_of _ (by decide +kernel)) ggX5_fewest_X2_fewestByTrying
theorem dX5_fewest_0 : decode cX5_fewest 0 = .ok (.iload_n 1, 1) := by decide +kernel
theorem dX5_fewest_1 : decode cX5_fewest 1 = .ok (.invokestatic 63, 3) := by decide +kernel
theorem dX5_fewest_4 : decode cX5_fewest 4 = .ok (.iload_n 2, 1) := by decide +kernel
theorem dX5_fewest_5 : decode cX5_fewest 5 = .ok (.iconst 0, 1) := by decide +kernel
theorem dX5_fewest_6 : decode cX5_fewest 6 = .ok (.iconst 1, 1) := by decide +kernel
theorem dX5_fewest_7 : decode cX5_fewest 7 = .ok (.invokestatic 41, 3) := by decide +kernel
theorem dX5_fewest_10 : decode cX5_fewest 10 = .ok (.aload_n 0, 1) := by decide +kernel
theorem dX5_fewest_11 : decode cX5_fewest 11 = .ok (.getfield 33, 3) := by decide +kernel
theorem dX5_fewest_14 : decode cX5_fewest 14 = .ok (.aload_n 0, 1) := by decide +kernel
theorem dX5_fewest_15 : decode cX5_fewest 15 = .ok (.getfield 12, 3) := by decide +kernel
theorem dX5_fewest_18 : decode cX5_fewest 18 = .ok (.iload_n 1, 1) := by decide +kernel
theorem dX5_fewest_19 : decode cX5_fewest 19 = .ok (.invokevirtual 215, 3) := by decide +kernel
theorem dX5_fewest_22 : decode cX5_fewest 22 = .ok (.iload_n 2, 1) := by decide +kernel
theorem dX5_fewest_23 : decode cX5_fewest 23 = .ok (.ifCond .ne 13, 3) := by decide +kernel
theorem dX5_fewest_26 : decode cX5_fewest 26 = .ok (.aload_n 0, 1) := by decide +kernel
theorem dX5_fewest_27 : decode cX5_fewest 27 = .ok (.getfield 33, 3) := by decide +kernel
theorem dX5_fewest_30 : decode cX5_fewest 30 = .ok (.invokevirtual 219, 3) := by decide +kernel
theorem dX5_fewest_33 : decode cX5_fewest 33 = .ok (.goto 10, 3) := by decide +kernel
theorem dX5_fewest_36 : decode cX5_fewest 36 = .ok (.aload_n 0, 1) := by decide +kernel
theorem dX5_fewest_37 : decode cX5_fewest 37 = .ok (.getfield 33, 3) := by decide +kernel
theorem dX5_fewest_40 : decode cX5_fewest 40 = .ok (.invokevirtual 222, 3) := by decide +kernel
theorem dX5_fewest_43 : decode cX5_fewest 43 = .ok (.ireturn, 1) := by decide +kernel
set_option maxRecDepth 20000 in
theorem ggX5_ifBorrowed_X5_needPainter : GoodIn wsX5_ifBorrowed wsX5_needPainter := goodIn_ca (goodIn_r _ [5, 6, 7] (by decide +kernel) (by decide +kernel)) (goodIn_sub (fun _ h => List.mem_cons_of_mem _ (List.mem_append_right _ h)) (by decide +kernel))
set_option maxRecDepth 20000 in
theorem gX5_ifBorrowed_X5_needPainter : GoodIn wsX5_ifBorrowed (va_wsS RX5 63 yX5_needPainter wsX5_needPainter) := goodIn_app (goodIn_of _ (by decide +kernel)) ggX5_ifBorrowed_X5_needPainter
set_option maxRecDepth 20000 in
theorem ggX5_ifBorrowed_X0_pairsTold : GoodIn wsX5_ifBorrowed wsX0_pairsTold := goodIn_r _ [12, 13, 14, 15, 16, 11, 17, 18, 19, 20, 21, 22, 23, 24, 25, 26, 27, 28, 29, 30, 35, 36, 37, 38, 39, 40, 41, 42, 43, 44] (by decide +kernel) (by decide +kernel)
set_option maxRecDepth 20000 in
theorem gX5_ifBorrowed_X0_pairsTold : GoodIn wsX5_ifBorrowed (wsV RX5 145 RX0 yX0_pairsTold wsX0_pairsTold) := goodIn_app (goodIn_of _ (by decide +kernel)) ggX5_ifBorrowed_X0_pairsTold
theorem dX5_ifBorrowed_0 : decode cX5_ifBorrowed 0 = .ok (.iload_n 1, 1) := by decide +kernel
theorem dX5_ifBorrowed_1 : decode cX5_ifBorrowed 1 = .ok (.invokestatic 63, 3) := by decide +kernel
theorem dX5_ifBorrowed_4 : decode cX5_ifBorrowed 4 = .ok (.iload_n 2, 1) := by decide +kernel
theorem dX5_ifBorrowed_5 : decode cX5_ifBorrowed 5 = .ok (.invokestatic 63, 3) := by decide +kernel
theorem dX5_ifBorrowed_8 : decode cX5_ifBorrowed 8 = .ok (.aload_n 0, 1) := by decide +kernel
theorem dX5_ifBorrowed_9 : decode cX5_ifBorrowed 9 = .ok (.getfield 12, 3) := by decide +kernel
theorem dX5_ifBorrowed_12 : decode cX5_ifBorrowed 12 = .ok (.iload_n 1, 1) := by decide +kernel
theorem dX5_ifBorrowed_13 : decode cX5_ifBorrowed 13 = .ok (.iload_n 2, 1) := by decide +kernel
theorem dX5_ifBorrowed_14 : decode cX5_ifBorrowed 14 = .ok (.invokevirtual 145, 3) := by decide +kernel
theorem dX5_ifBorrowed_17 : decode cX5_ifBorrowed 17 = .ok (.ireturn, 1) := by decide +kernel
set_option maxRecDepth 20000 in
theorem ggX5_leastChange_X5_needPainter : GoodIn wsX5_leastChange wsX5_needPainter := goodIn_ca (goodIn_r _ [5, 6, 7] (by decide +kernel) (by decide +kernel)) (goodIn_sub (fun _ h => List.mem_cons_of_mem _ (List.mem_append_left _ (List.mem_append_right _ h))) (by decide +kernel))
set_option maxRecDepth 20000 in
theorem gX5_leastChange_X5_needPainter : GoodIn wsX5_leastChange (va_wsS RX5 63 yX5_needPainter wsX5_needPainter) := goodIn_app (goodIn_of _ (by decide +kernel)) ggX5_leastChange_X5_needPainter
set_option maxRecDepth 20000 in
theorem ggX5_leastChange_X5_needPot : GoodIn wsX5_leastChange wsX5_needPot := goodIn_ca (goodIn_r _ [10, 6, 7] (by decide +kernel) (by decide +kernel)) (goodIn_sub (fun _ h => List.mem_cons_of_mem _ (List.mem_append_left _ (List.mem_append_right _ h))) (by decide +kernel))
set_option maxRecDepth 20000 in
theorem gX5_leastChange_X5_needPot : GoodIn wsX5_leastChange (va_wsS RX5 37 yX5_needPot wsX5_needPot) := goodIn_app (goodIn_of _ (by decide +kernel)) ggX5_leastChange_X5_needPot
set_option maxRecDepth 20000 in
theorem ggX5_leastChange_X5_needUnlike : GoodIn wsX5_leastChange wsX5_needUnlike := goodIn_ca (goodIn_r _ [13, 14, 15] (by decide +kernel) (by decide +kernel)) (goodIn_sub (fun _ h => List.mem_cons_of_mem _ (List.mem_append_right _ h)) (by decide +kernel))
set_option maxRecDepth 20000 in
theorem gX5_leastChange_X5_needUnlike : GoodIn wsX5_leastChange (va_wsS RX5 85 yX5_needUnlike wsX5_needUnlike) := goodIn_app (goodIn_of _ (by decide +kernel)) ggX5_leastChange_X5_needUnlike
set_option maxRecDepth 20000 in
theorem ggX5_leastChange_X0_nearestColour : GoodIn wsX5_leastChange wsX0_nearestColour := goodIn_r _ [20, 21, 22, 23, 24, 25, 26, 27, 28, 29, 30, 31, 32, 33, 34, 35, 36, 37, 38, 39, 19, 40, 41, 42, 43, 49, 50, 51, 52, 53, 54, 55, 56, 57, 58] (by decide +kernel) (by decide +kernel)
set_option maxRecDepth 20000 in
theorem gX5_leastChange_X0_nearestColour : GoodIn wsX5_leastChange (wsV RX5 225 RX0 yX0_nearestColour wsX0_nearestColour) := goodIn_app (goodIn_of _ (by decide +kernel)) ggX5_leastChange_X0_nearestColour
set_option maxRecDepth 20000 in
theorem ggX5_leastChange_X1_change : GoodIn wsX5_leastChange wsX1_change := goodIn_r _ [26, 27, 28, 25, 29, 30, 31, 32, 33, 34, 35, 36] (by decide +kernel) (by decide +kernel)
set_option maxRecDepth 20000 in
theorem gX5_leastChange_X1_change : GoodIn wsX5_leastChange (va_wsS RX5 228 yX1_change wsX1_change) := goodIn_app (goodIn_of _ (by decide +kernel)) ggX5_leastChange_X1_change
theorem dX5_leastChange_0 : decode cX5_leastChange 0 = .ok (.iload_n 1, 1) := by decide +kernel
theorem dX5_leastChange_1 : decode cX5_leastChange 1 = .ok (.invokestatic 63, 3) := by decide +kernel
theorem dX5_leastChange_4 : decode cX5_leastChange 4 = .ok (.iload_n 2, 1) := by decide +kernel
theorem dX5_leastChange_5 : decode cX5_leastChange 5 = .ok (.invokestatic 37, 3) := by decide +kernel
theorem dX5_leastChange_8 : decode cX5_leastChange 8 = .ok (.iload_n 3, 1) := by decide +kernel
theorem dX5_leastChange_9 : decode cX5_leastChange 9 = .ok (.invokestatic 37, 3) := by decide +kernel
theorem dX5_leastChange_12 : decode cX5_leastChange 12 = .ok (.iload_n 2, 1) := by decide +kernel
theorem dX5_leastChange_13 : decode cX5_leastChange 13 = .ok (.iload_n 3, 1) := by decide +kernel
theorem dX5_leastChange_14 : decode cX5_leastChange 14 = .ok (.invokestatic 85, 3) := by decide +kernel
theorem dX5_leastChange_17 : decode cX5_leastChange 17 = .ok (.aload_n 0, 1) := by decide +kernel
theorem dX5_leastChange_18 : decode cX5_leastChange 18 = .ok (.getfield 12, 3) := by decide +kernel
theorem dX5_leastChange_21 : decode cX5_leastChange 21 = .ok (.iload_n 1, 1) := by decide +kernel
theorem dX5_leastChange_22 : decode cX5_leastChange 22 = .ok (.iload_n 2, 1) := by decide +kernel
theorem dX5_leastChange_23 : decode cX5_leastChange 23 = .ok (.iload_n 3, 1) := by decide +kernel
theorem dX5_leastChange_24 : decode cX5_leastChange 24 = .ok (.invokevirtual 225, 3) := by decide +kernel
theorem dX5_leastChange_27 : decode cX5_leastChange 27 = .ok (.istore 4, 2) := by decide +kernel
theorem dX5_leastChange_29 : decode cX5_leastChange 29 = .ok (.iload 4, 2) := by decide +kernel
theorem dX5_leastChange_31 : decode cX5_leastChange 31 = .ok (.iconst (-1), 1) := by decide +kernel
theorem dX5_leastChange_32 : decode cX5_leastChange 32 = .ok (.if_icmp .ne 7, 3) := by decide +kernel
theorem dX5_leastChange_35 : decode cX5_leastChange 35 = .ok (.iconst (-1), 1) := by decide +kernel
theorem dX5_leastChange_36 : decode cX5_leastChange 36 = .ok (.goto 17, 3) := by decide +kernel
theorem dX5_leastChange_39 : decode cX5_leastChange 39 = .ok (.aload_n 0, 1) := by decide +kernel
theorem dX5_leastChange_40 : decode cX5_leastChange 40 = .ok (.getfield 12, 3) := by decide +kernel
theorem dX5_leastChange_43 : decode cX5_leastChange 43 = .ok (.getfield 49, 3) := by decide +kernel
theorem dX5_leastChange_46 : decode cX5_leastChange 46 = .ok (.iload_n 2, 1) := by decide +kernel
theorem dX5_leastChange_47 : decode cX5_leastChange 47 = .ok (.iaload, 1) := by decide +kernel
theorem dX5_leastChange_48 : decode cX5_leastChange 48 = .ok (.iload 4, 2) := by decide +kernel
theorem dX5_leastChange_50 : decode cX5_leastChange 50 = .ok (.invokestatic 228, 3) := by decide +kernel
theorem dX5_leastChange_53 : decode cX5_leastChange 53 = .ok (.ireturn, 1) := by decide +kernel
set_option maxRecDepth 20000 in
theorem ggX5_bestPainter_X0_pairsTold : GoodIn wsX5_bestPainter wsX0_pairsTold := goodIn_r _ [6, 7, 8, 9, 10, 5, 11, 12, 13, 14, 15, 16, 17, 18, 19, 20, 21, 22, 23, 24, 29, 30, 31, 32, 33, 34, 35, 36, 37, 38] (by decide +kernel) (by decide +kernel)
set_option maxRecDepth 20000 in
theorem gX5_bestPainter_X0_pairsTold : GoodIn wsX5_bestPainter (wsV RX5 145 RX0 yX0_pairsTold wsX0_pairsTold) := goodIn_app (goodIn_of _ (by decide +kernel)) ggX5_bestPainter_X0_pairsTold
theorem dX5_bestPainter_0 : decode cX5_bestPainter 0 = .ok (.iconst 0, 1) := by decide +kernel
theorem dX5_bestPainter_1 : decode cX5_bestPainter 1 = .ok (.istore_n 1, 1) := by decide +kernel
theorem dX5_bestPainter_2 : decode cX5_bestPainter 2 = .ok (.iconst (-1), 1) := by decide +kernel
theorem dX5_bestPainter_3 : decode cX5_bestPainter 3 = .ok (.istore_n 2, 1) := by decide +kernel
theorem dX5_bestPainter_4 : decode cX5_bestPainter 4 = .ok (.iconst 0, 1) := by decide +kernel
theorem dX5_bestPainter_5 : decode cX5_bestPainter 5 = .ok (.istore_n 3, 1) := by decide +kernel
theorem dX5_bestPainter_6 : decode cX5_bestPainter 6 = .ok (.iload_n 3, 1) := by decide +kernel
theorem dX5_bestPainter_7 : decode cX5_bestPainter 7 = .ok (.iconst 4, 1) := by decide +kernel
theorem dX5_bestPainter_8 : decode cX5_bestPainter 8 = .ok (.if_icmp .ge 39, 3) := by decide +kernel
theorem dX5_bestPainter_11 : decode cX5_bestPainter 11 = .ok (.aload_n 0, 1) := by decide +kernel
theorem dX5_bestPainter_12 : decode cX5_bestPainter 12 = .ok (.getfield 12, 3) := by decide +kernel
theorem dX5_bestPainter_15 : decode cX5_bestPainter 15 = .ok (.iload_n 3, 1) := by decide +kernel
theorem dX5_bestPainter_16 : decode cX5_bestPainter 16 = .ok (.aload_n 0, 1) := by decide +kernel
theorem dX5_bestPainter_17 : decode cX5_bestPainter 17 = .ok (.getfield 12, 3) := by decide +kernel
theorem dX5_bestPainter_20 : decode cX5_bestPainter 20 = .ok (.getfield 72, 3) := by decide +kernel
theorem dX5_bestPainter_23 : decode cX5_bestPainter 23 = .ok (.iload_n 3, 1) := by decide +kernel
theorem dX5_bestPainter_24 : decode cX5_bestPainter 24 = .ok (.iaload, 1) := by decide +kernel
theorem dX5_bestPainter_25 : decode cX5_bestPainter 25 = .ok (.invokevirtual 145, 3) := by decide +kernel
theorem dX5_bestPainter_28 : decode cX5_bestPainter 28 = .ok (.istore 4, 2) := by decide +kernel
theorem dX5_bestPainter_30 : decode cX5_bestPainter 30 = .ok (.iload 4, 2) := by decide +kernel
theorem dX5_bestPainter_32 : decode cX5_bestPainter 32 = .ok (.iload_n 2, 1) := by decide +kernel
theorem dX5_bestPainter_33 : decode cX5_bestPainter 33 = .ok (.if_icmp .le 8, 3) := by decide +kernel
theorem dX5_bestPainter_36 : decode cX5_bestPainter 36 = .ok (.iload_n 3, 1) := by decide +kernel
theorem dX5_bestPainter_37 : decode cX5_bestPainter 37 = .ok (.istore_n 1, 1) := by decide +kernel
theorem dX5_bestPainter_38 : decode cX5_bestPainter 38 = .ok (.iload 4, 2) := by decide +kernel
theorem dX5_bestPainter_40 : decode cX5_bestPainter 40 = .ok (.istore_n 2, 1) := by decide +kernel
theorem dX5_bestPainter_41 : decode cX5_bestPainter 41 = .ok (.iinc 3 1, 3) := by decide +kernel
theorem dX5_bestPainter_44 : decode cX5_bestPainter 44 = .ok (.goto (-38), 3) := by decide +kernel
theorem dX5_bestPainter_47 : decode cX5_bestPainter 47 = .ok (.iload_n 1, 1) := by decide +kernel
theorem dX5_bestPainter_48 : decode cX5_bestPainter 48 = .ok (.ireturn, 1) := by decide +kernel
set_option maxRecDepth 20000 in
theorem ggX5_apartShare_X0_pairsTold : GoodIn wsX5_apartShare wsX0_pairsTold := goodIn_r _ [7, 8, 9, 10, 11, 6, 12, 13, 14, 15, 16, 17, 18, 19, 20, 21, 22, 23, 24, 25, 30, 31, 32, 33, 34, 35, 36, 37, 38, 39] (by decide +kernel) (by decide +kernel)
set_option maxRecDepth 20000 in
theorem gX5_apartShare_X0_pairsTold : GoodIn wsX5_apartShare (wsV RX5 145 RX0 yX0_pairsTold wsX0_pairsTold) := goodIn_app (goodIn_of _ (by decide +kernel)) ggX5_apartShare_X0_pairsTold
theorem dX5_apartShare_0 : decode cX5_apartShare 0 = .ok (.iconst 0, 1) := by decide +kernel
theorem dX5_apartShare_1 : decode cX5_apartShare 1 = .ok (.istore_n 1, 1) := by decide +kernel
theorem dX5_apartShare_2 : decode cX5_apartShare 2 = .ok (.iconst 0, 1) := by decide +kernel
theorem dX5_apartShare_3 : decode cX5_apartShare 3 = .ok (.istore_n 2, 1) := by decide +kernel
theorem dX5_apartShare_4 : decode cX5_apartShare 4 = .ok (.iload_n 2, 1) := by decide +kernel
theorem dX5_apartShare_5 : decode cX5_apartShare 5 = .ok (.iconst 4, 1) := by decide +kernel
theorem dX5_apartShare_6 : decode cX5_apartShare 6 = .ok (.if_icmp .ge 29, 3) := by decide +kernel
theorem dX5_apartShare_9 : decode cX5_apartShare 9 = .ok (.iload_n 1, 1) := by decide +kernel
theorem dX5_apartShare_10 : decode cX5_apartShare 10 = .ok (.aload_n 0, 1) := by decide +kernel
theorem dX5_apartShare_11 : decode cX5_apartShare 11 = .ok (.getfield 12, 3) := by decide +kernel
theorem dX5_apartShare_14 : decode cX5_apartShare 14 = .ok (.iload_n 2, 1) := by decide +kernel
theorem dX5_apartShare_15 : decode cX5_apartShare 15 = .ok (.aload_n 0, 1) := by decide +kernel
theorem dX5_apartShare_16 : decode cX5_apartShare 16 = .ok (.getfield 12, 3) := by decide +kernel
theorem dX5_apartShare_19 : decode cX5_apartShare 19 = .ok (.getfield 72, 3) := by decide +kernel
theorem dX5_apartShare_22 : decode cX5_apartShare 22 = .ok (.iload_n 2, 1) := by decide +kernel
theorem dX5_apartShare_23 : decode cX5_apartShare 23 = .ok (.iaload, 1) := by decide +kernel
theorem dX5_apartShare_24 : decode cX5_apartShare 24 = .ok (.invokevirtual 145, 3) := by decide +kernel
theorem dX5_apartShare_27 : decode cX5_apartShare 27 = .ok (.iadd, 1) := by decide +kernel
theorem dX5_apartShare_28 : decode cX5_apartShare 28 = .ok (.istore_n 1, 1) := by decide +kernel
theorem dX5_apartShare_29 : decode cX5_apartShare 29 = .ok (.iinc 2 1, 3) := by decide +kernel
theorem dX5_apartShare_32 : decode cX5_apartShare 32 = .ok (.goto (-28), 3) := by decide +kernel
theorem dX5_apartShare_35 : decode cX5_apartShare 35 = .ok (.iload_n 1, 1) := by decide +kernel
theorem dX5_apartShare_36 : decode cX5_apartShare 36 = .ok (.i2d, 1) := by decide +kernel
theorem dX5_apartShare_37 : decode cX5_apartShare 37 = .ok (.ldc2_w 231, 3) := by decide +kernel
theorem dX5_apartShare_40 : decode cX5_apartShare 40 = .ok (.ddiv, 1) := by decide +kernel
theorem dX5_apartShare_41 : decode cX5_apartShare 41 = .ok (.dreturn, 1) := by decide +kernel
theorem dX5_needPot_0 : decode cX5_needPot 0 = .ok (.iload_n 0, 1) := by decide +kernel
theorem dX5_needPot_1 : decode cX5_needPot 1 = .ok (.ifCond .lt 9, 3) := by decide +kernel
theorem dX5_needPot_4 : decode cX5_needPot 4 = .ok (.iload_n 0, 1) := by decide +kernel
theorem dX5_needPot_5 : decode cX5_needPot 5 = .ok (.bipush 8, 2) := by decide +kernel
theorem dX5_needPot_7 : decode cX5_needPot 7 = .ok (.if_icmp .lt 14, 3) := by decide +kernel
theorem dX5_needPot_10 : decode cX5_needPot 10 = .ok (.new 298, 3) := by decide +kernel
theorem dX5_needPot_13 : decode cX5_needPot 13 = .ok (.dup, 1) := by decide +kernel
theorem dX5_needPot_14 : decode cX5_needPot 14 = .ok (.ldc_w 300, 3) := by decide +kernel
theorem dX5_needPot_17 : decode cX5_needPot 17 = .ok (.invokespecial 302, 3) := by decide +kernel
theorem dX5_needPot_20 : decode cX5_needPot 20 = .ok (.athrow, 1) := by decide +kernel
theorem dX5_needPot_21 : decode cX5_needPot 21 = .ok (.return_, 1) := by decide +kernel
theorem dX5_needPainter_0 : decode cX5_needPainter 0 = .ok (.iload_n 0, 1) := by decide +kernel
theorem dX5_needPainter_1 : decode cX5_needPainter 1 = .ok (.ifCond .lt 8, 3) := by decide +kernel
theorem dX5_needPainter_4 : decode cX5_needPainter 4 = .ok (.iload_n 0, 1) := by decide +kernel
theorem dX5_needPainter_5 : decode cX5_needPainter 5 = .ok (.iconst 4, 1) := by decide +kernel
theorem dX5_needPainter_6 : decode cX5_needPainter 6 = .ok (.if_icmp .lt 14, 3) := by decide +kernel
theorem dX5_needPainter_9 : decode cX5_needPainter 9 = .ok (.new 298, 3) := by decide +kernel
theorem dX5_needPainter_12 : decode cX5_needPainter 12 = .ok (.dup, 1) := by decide +kernel
theorem dX5_needPainter_13 : decode cX5_needPainter 13 = .ok (.ldc_w 303, 3) := by decide +kernel
theorem dX5_needPainter_16 : decode cX5_needPainter 16 = .ok (.invokespecial 302, 3) := by decide +kernel
theorem dX5_needPainter_19 : decode cX5_needPainter 19 = .ok (.athrow, 1) := by decide +kernel
theorem dX5_needPainter_20 : decode cX5_needPainter 20 = .ok (.return_, 1) := by decide +kernel
theorem dX5_needChart_0 : decode cX5_needChart 0 = .ok (.iload_n 1, 1) := by decide +kernel
theorem dX5_needChart_1 : decode cX5_needChart 1 = .ok (.ifCond .lt 14, 3) := by decide +kernel
theorem dX5_needChart_4 : decode cX5_needChart 4 = .ok (.iload_n 1, 1) := by decide +kernel
theorem dX5_needChart_5 : decode cX5_needChart 5 = .ok (.aload_n 0, 1) := by decide +kernel
theorem dX5_needChart_6 : decode cX5_needChart 6 = .ok (.getfield 12, 3) := by decide +kernel
theorem dX5_needChart_9 : decode cX5_needChart 9 = .ok (.getfield 198, 3) := by decide +kernel
theorem dX5_needChart_12 : decode cX5_needChart 12 = .ok (.if_icmp .lt 14, 3) := by decide +kernel
theorem dX5_needChart_15 : decode cX5_needChart 15 = .ok (.new 298, 3) := by decide +kernel
theorem dX5_needChart_18 : decode cX5_needChart 18 = .ok (.dup, 1) := by decide +kernel
theorem dX5_needChart_19 : decode cX5_needChart 19 = .ok (.ldc_w 305, 3) := by decide +kernel
theorem dX5_needChart_22 : decode cX5_needChart 22 = .ok (.invokespecial 302, 3) := by decide +kernel
theorem dX5_needChart_25 : decode cX5_needChart 25 = .ok (.athrow, 1) := by decide +kernel
theorem dX5_needChart_26 : decode cX5_needChart 26 = .ok (.return_, 1) := by decide +kernel
theorem dX5_needWithin_0 : decode cX5_needWithin 0 = .ok (.iload_n 0, 1) := by decide +kernel
theorem dX5_needWithin_1 : decode cX5_needWithin 1 = .ok (.iload_n 1, 1) := by decide +kernel
theorem dX5_needWithin_2 : decode cX5_needWithin 2 = .ok (.if_icmp .lt 8, 3) := by decide +kernel
theorem dX5_needWithin_5 : decode cX5_needWithin 5 = .ok (.iload_n 0, 1) := by decide +kernel
theorem dX5_needWithin_6 : decode cX5_needWithin 6 = .ok (.iload_n 2, 1) := by decide +kernel
theorem dX5_needWithin_7 : decode cX5_needWithin 7 = .ok (.if_icmp .le 14, 3) := by decide +kernel
theorem dX5_needWithin_10 : decode cX5_needWithin 10 = .ok (.new 137, 3) := by decide +kernel
theorem dX5_needWithin_13 : decode cX5_needWithin 13 = .ok (.dup, 1) := by decide +kernel
theorem dX5_needWithin_14 : decode cX5_needWithin 14 = .ok (.ldc_w 307, 3) := by decide +kernel
theorem dX5_needWithin_17 : decode cX5_needWithin 17 = .ok (.invokespecial 141, 3) := by decide +kernel
theorem dX5_needWithin_20 : decode cX5_needWithin 20 = .ok (.athrow, 1) := by decide +kernel
theorem dX5_needWithin_21 : decode cX5_needWithin 21 = .ok (.return_, 1) := by decide +kernel
theorem dX5_needUnlike_0 : decode cX5_needUnlike 0 = .ok (.iload_n 0, 1) := by decide +kernel
theorem dX5_needUnlike_1 : decode cX5_needUnlike 1 = .ok (.iload_n 1, 1) := by decide +kernel
theorem dX5_needUnlike_2 : decode cX5_needUnlike 2 = .ok (.if_icmp .ne 14, 3) := by decide +kernel
theorem dX5_needUnlike_5 : decode cX5_needUnlike 5 = .ok (.new 137, 3) := by decide +kernel
theorem dX5_needUnlike_8 : decode cX5_needUnlike 8 = .ok (.dup, 1) := by decide +kernel
theorem dX5_needUnlike_9 : decode cX5_needUnlike 9 = .ok (.ldc_w 309, 3) := by decide +kernel
theorem dX5_needUnlike_12 : decode cX5_needUnlike 12 = .ok (.invokespecial 141, 3) := by decide +kernel
theorem dX5_needUnlike_15 : decode cX5_needUnlike 15 = .ok (.athrow, 1) := by decide +kernel
theorem dX5_needUnlike_16 : decode cX5_needUnlike 16 = .ok (.return_, 1) := by decide +kernel
theorem dJ6_bitCount_0f7a4_0 : decode cJ6_bitCount_0f7a4 0 = .ok (.iload_n 0, 1) := by decide +kernel
theorem dJ6_bitCount_0f7a4_1 : decode cJ6_bitCount_0f7a4 1 = .ok (.iload_n 0, 1) := by decide +kernel
theorem dJ6_bitCount_0f7a4_2 : decode cJ6_bitCount_0f7a4 2 = .ok (.iconst 1, 1) := by decide +kernel
theorem dJ6_bitCount_0f7a4_3 : decode cJ6_bitCount_0f7a4 3 = .ok (.iushr, 1) := by decide +kernel
theorem dJ6_bitCount_0f7a4_4 : decode cJ6_bitCount_0f7a4 4 = .ok (.ldc_w 265, 3) := by decide +kernel
theorem dJ6_bitCount_0f7a4_7 : decode cJ6_bitCount_0f7a4 7 = .ok (.iand, 1) := by decide +kernel
theorem dJ6_bitCount_0f7a4_8 : decode cJ6_bitCount_0f7a4 8 = .ok (.isub, 1) := by decide +kernel
theorem dJ6_bitCount_0f7a4_9 : decode cJ6_bitCount_0f7a4 9 = .ok (.istore_n 0, 1) := by decide +kernel
theorem dJ6_bitCount_0f7a4_10 : decode cJ6_bitCount_0f7a4 10 = .ok (.iload_n 0, 1) := by decide +kernel
theorem dJ6_bitCount_0f7a4_11 : decode cJ6_bitCount_0f7a4 11 = .ok (.ldc_w 266, 3) := by decide +kernel
theorem dJ6_bitCount_0f7a4_14 : decode cJ6_bitCount_0f7a4 14 = .ok (.iand, 1) := by decide +kernel
theorem dJ6_bitCount_0f7a4_15 : decode cJ6_bitCount_0f7a4 15 = .ok (.iload_n 0, 1) := by decide +kernel
theorem dJ6_bitCount_0f7a4_16 : decode cJ6_bitCount_0f7a4 16 = .ok (.iconst 2, 1) := by decide +kernel
theorem dJ6_bitCount_0f7a4_17 : decode cJ6_bitCount_0f7a4 17 = .ok (.iushr, 1) := by decide +kernel
theorem dJ6_bitCount_0f7a4_18 : decode cJ6_bitCount_0f7a4 18 = .ok (.ldc_w 266, 3) := by decide +kernel
theorem dJ6_bitCount_0f7a4_21 : decode cJ6_bitCount_0f7a4 21 = .ok (.iand, 1) := by decide +kernel
theorem dJ6_bitCount_0f7a4_22 : decode cJ6_bitCount_0f7a4 22 = .ok (.iadd, 1) := by decide +kernel
theorem dJ6_bitCount_0f7a4_23 : decode cJ6_bitCount_0f7a4 23 = .ok (.istore_n 0, 1) := by decide +kernel
theorem dJ6_bitCount_0f7a4_24 : decode cJ6_bitCount_0f7a4 24 = .ok (.iload_n 0, 1) := by decide +kernel
theorem dJ6_bitCount_0f7a4_25 : decode cJ6_bitCount_0f7a4 25 = .ok (.iload_n 0, 1) := by decide +kernel
theorem dJ6_bitCount_0f7a4_26 : decode cJ6_bitCount_0f7a4 26 = .ok (.iconst 4, 1) := by decide +kernel
theorem dJ6_bitCount_0f7a4_27 : decode cJ6_bitCount_0f7a4 27 = .ok (.iushr, 1) := by decide +kernel
theorem dJ6_bitCount_0f7a4_28 : decode cJ6_bitCount_0f7a4 28 = .ok (.iadd, 1) := by decide +kernel
theorem dJ6_bitCount_0f7a4_29 : decode cJ6_bitCount_0f7a4 29 = .ok (.ldc_w 267, 3) := by decide +kernel
theorem dJ6_bitCount_0f7a4_32 : decode cJ6_bitCount_0f7a4 32 = .ok (.iand, 1) := by decide +kernel
theorem dJ6_bitCount_0f7a4_33 : decode cJ6_bitCount_0f7a4 33 = .ok (.istore_n 0, 1) := by decide +kernel
theorem dJ6_bitCount_0f7a4_34 : decode cJ6_bitCount_0f7a4 34 = .ok (.iload_n 0, 1) := by decide +kernel
theorem dJ6_bitCount_0f7a4_35 : decode cJ6_bitCount_0f7a4 35 = .ok (.iload_n 0, 1) := by decide +kernel
theorem dJ6_bitCount_0f7a4_36 : decode cJ6_bitCount_0f7a4 36 = .ok (.bipush 8, 2) := by decide +kernel
theorem dJ6_bitCount_0f7a4_38 : decode cJ6_bitCount_0f7a4 38 = .ok (.iushr, 1) := by decide +kernel
theorem dJ6_bitCount_0f7a4_39 : decode cJ6_bitCount_0f7a4 39 = .ok (.iadd, 1) := by decide +kernel
theorem dJ6_bitCount_0f7a4_40 : decode cJ6_bitCount_0f7a4 40 = .ok (.istore_n 0, 1) := by decide +kernel
theorem dJ6_bitCount_0f7a4_41 : decode cJ6_bitCount_0f7a4 41 = .ok (.iload_n 0, 1) := by decide +kernel
theorem dJ6_bitCount_0f7a4_42 : decode cJ6_bitCount_0f7a4 42 = .ok (.iload_n 0, 1) := by decide +kernel
theorem dJ6_bitCount_0f7a4_43 : decode cJ6_bitCount_0f7a4 43 = .ok (.bipush 16, 2) := by decide +kernel
theorem dJ6_bitCount_0f7a4_45 : decode cJ6_bitCount_0f7a4 45 = .ok (.iushr, 1) := by decide +kernel
theorem dJ6_bitCount_0f7a4_46 : decode cJ6_bitCount_0f7a4 46 = .ok (.iadd, 1) := by decide +kernel
theorem dJ6_bitCount_0f7a4_47 : decode cJ6_bitCount_0f7a4 47 = .ok (.istore_n 0, 1) := by decide +kernel
theorem dJ6_bitCount_0f7a4_48 : decode cJ6_bitCount_0f7a4 48 = .ok (.iload_n 0, 1) := by decide +kernel
theorem dJ6_bitCount_0f7a4_49 : decode cJ6_bitCount_0f7a4 49 = .ok (.bipush 63, 2) := by decide +kernel
theorem dJ6_bitCount_0f7a4_51 : decode cJ6_bitCount_0f7a4 51 = .ok (.iand, 1) := by decide +kernel
theorem dJ6_bitCount_0f7a4_52 : decode cJ6_bitCount_0f7a4 52 = .ok (.ireturn, 1) := by decide +kernel
theorem dJ9_abs_0f7a4_0 : decode cJ9_abs_0f7a4 0 = .ok (.iload_n 0, 1) := by decide +kernel
theorem dJ9_abs_0f7a4_1 : decode cJ9_abs_0f7a4 1 = .ok (.ifCond .ge 8, 3) := by decide +kernel
theorem dJ9_abs_0f7a4_4 : decode cJ9_abs_0f7a4 4 = .ok (.iload_n 0, 1) := by decide +kernel
theorem dJ9_abs_0f7a4_5 : decode cJ9_abs_0f7a4 5 = .ok (.ineg, 1) := by decide +kernel
theorem dJ9_abs_0f7a4_6 : decode cJ9_abs_0f7a4 6 = .ok (.goto 4, 3) := by decide +kernel
theorem dJ9_abs_0f7a4_9 : decode cJ9_abs_0f7a4 9 = .ok (.iload_n 0, 1) := by decide +kernel
theorem dJ9_abs_0f7a4_10 : decode cJ9_abs_0f7a4 10 = .ok (.ireturn, 1) := by decide +kernel
theorem dJ9_min_7cf53_0 : decode cJ9_min_7cf53 0 = .ok (.iload_n 0, 1) := by decide +kernel
theorem dJ9_min_7cf53_1 : decode cJ9_min_7cf53 1 = .ok (.iload_n 1, 1) := by decide +kernel
theorem dJ9_min_7cf53_2 : decode cJ9_min_7cf53 2 = .ok (.if_icmp .gt 7, 3) := by decide +kernel
theorem dJ9_min_7cf53_5 : decode cJ9_min_7cf53 5 = .ok (.iload_n 0, 1) := by decide +kernel
theorem dJ9_min_7cf53_6 : decode cJ9_min_7cf53 6 = .ok (.goto 4, 3) := by decide +kernel
theorem dJ9_min_7cf53_9 : decode cJ9_min_7cf53 9 = .ok (.iload_n 1, 1) := by decide +kernel
theorem dJ9_min_7cf53_10 : decode cJ9_min_7cf53 10 = .ok (.ireturn, 1) := by decide +kernel
theorem dL_at_0 : decode cL_at 0 = .ok (.iload_n 1, 1) := by decide +kernel
theorem dL_at_1 : decode cL_at 1 = .ok (.aload_n 0, 1) := by decide +kernel
theorem dL_at_2 : decode cL_at 2 = .ok (.arraylength, 1) := by decide +kernel
theorem dL_at_3 : decode cL_at 3 = .ok (.if_icmp .ge 9, 3) := by decide +kernel
theorem dL_at_6 : decode cL_at 6 = .ok (.aload_n 0, 1) := by decide +kernel
theorem dL_at_7 : decode cL_at 7 = .ok (.iload_n 1, 1) := by decide +kernel
theorem dL_at_8 : decode cL_at 8 = .ok (.iaload, 1) := by decide +kernel
theorem dL_at_9 : decode cL_at 9 = .ok (.goto 12, 3) := by decide +kernel
theorem dL_at_12 : decode cL_at 12 = .ok (.ldc 7, 2) := by decide +kernel
theorem dL_at_14 : decode cL_at 14 = .ok (.iload_n 1, 1) := by decide +kernel
theorem dL_at_15 : decode cL_at 15 = .ok (.iconst 1, 1) := by decide +kernel
theorem dL_at_16 : decode cL_at 16 = .ok (.iadd, 1) := by decide +kernel
theorem dL_at_17 : decode cL_at 17 = .ok (.imul, 1) := by decide +kernel
theorem dL_at_18 : decode cL_at 18 = .ok (.ldc 8, 2) := by decide +kernel
theorem dL_at_20 : decode cL_at 20 = .ok (.iadd, 1) := by decide +kernel
theorem dL_at_21 : decode cL_at 21 = .ok (.ireturn, 1) := by decide +kernel
theorem dL_low_0 : decode cL_low 0 = .ok (.iload_n 0, 1) := by decide +kernel
theorem dL_low_1 : decode cL_low 1 = .ok (.ldc 9, 2) := by decide +kernel
theorem dL_low_3 : decode cL_low 3 = .ok (.iand, 1) := by decide +kernel
theorem dL_low_4 : decode cL_low 4 = .ok (.iload_n 1, 1) := by decide +kernel
theorem dL_low_5 : decode cL_low 5 = .ok (.irem, 1) := by decide +kernel
theorem dL_low_6 : decode cL_low 6 = .ok (.ireturn, 1) := by decide +kernel
set_option maxRecDepth 20000 in
theorem ggL_mix_X5_mix : GoodIn wsL_mix wsX5_mix := goodIn_ca (goodIn_ca (goodIn_r _ [9, 10, 11, 12, 13, 8, 14, 15, 16, 17, 18, 19, 20, 21, 22, 23, 24, 25, 26, 27, 28, 29, 30, 31, 32, 33, 34, 35, 36, 37, 38, 39, 40, 41, 42, 43, 44, 45, 46, 47, 48, 49, 50, 51, 52, 53, 54, 55, 56, 57, 58, 59, 60, 61, 62, 63, 64, 65, 66, 67, 68, 69, 70, 71, 72, 73, 74, 75, 76, 77] (by decide +kernel) (by decide +kernel)) (goodIn_sub (fun _ h => List.mem_cons_of_mem _ (List.mem_append_left _ (List.mem_append_right _ h))) (by decide +kernel))) (goodIn_sub (fun _ h => List.mem_cons_of_mem _ (List.mem_append_right _ h)) (by decide +kernel))
set_option maxRecDepth 20000 in
theorem gL_mix_X5_mix : GoodIn wsL_mix (wsV RL 10 RX5 yX5_mix wsX5_mix) := goodIn_app (goodIn_of _ (by decide +kernel)) ggL_mix_X5_mix
theorem dL_mix_0 : decode cL_mix 0 = .ok (.aload_n 0, 1) := by decide +kernel
theorem dL_mix_1 : decode cL_mix 1 = .ok (.iload_n 1, 1) := by decide +kernel
theorem dL_mix_2 : decode cL_mix 2 = .ok (.iload_n 2, 1) := by decide +kernel
theorem dL_mix_3 : decode cL_mix 3 = .ok (.iload_n 3, 1) := by decide +kernel
theorem dL_mix_4 : decode cL_mix 4 = .ok (.invokevirtual 10, 3) := by decide +kernel
theorem dL_mix_7 : decode cL_mix 7 = .ok (.ireturn, 1) := by decide +kernel
theorem dL_mix_8 : decode cL_mix 8 = .ok (.astore 4, 2) := by decide +kernel
theorem dL_mix_10 : decode cL_mix 10 = .ok (.ldc 18, 2) := by decide +kernel
theorem dL_mix_12 : decode cL_mix 12 = .ok (.ireturn, 1) := by decide +kernel
theorem dL_mix_13 : decode cL_mix 13 = .ok (.astore 4, 2) := by decide +kernel
theorem dL_mix_15 : decode cL_mix 15 = .ok (.ldc 21, 2) := by decide +kernel
theorem dL_mix_17 : decode cL_mix 17 = .ok (.ireturn, 1) := by decide +kernel
set_option maxRecDepth 20000 in
theorem ggL_painter_X5_painter : GoodIn wsL_painter wsX5_painter := goodIn_ca (goodIn_ca (goodIn_r _ [9, 10, 11, 12, 13, 8, 14, 15, 16, 17, 18, 19, 20, 21, 22, 23, 24, 25, 26, 27, 28, 29, 30, 31, 32, 33, 34, 35, 36, 37, 38, 39, 40, 41, 42, 43, 44, 45, 46, 47, 48, 49, 50, 51, 52, 53, 54, 55, 56, 57, 58, 59, 60, 61, 62, 63, 64, 65, 66, 67, 68, 69] (by decide +kernel) (by decide +kernel)) (goodIn_sub (fun _ h => List.mem_cons_of_mem _ (List.mem_append_left _ (List.mem_append_right _ h))) (by decide +kernel))) (goodIn_sub (fun _ h => List.mem_cons_of_mem _ (List.mem_append_right _ h)) (by decide +kernel))
set_option maxRecDepth 20000 in
theorem gL_painter_X5_painter : GoodIn wsL_painter (wsV RL 22 RX5 yX5_painter wsX5_painter) := goodIn_app (goodIn_of _ (by decide +kernel)) ggL_painter_X5_painter
theorem dL_painter_0 : decode cL_painter 0 = .ok (.aload_n 0, 1) := by decide +kernel
theorem dL_painter_1 : decode cL_painter 1 = .ok (.iload_n 1, 1) := by decide +kernel
theorem dL_painter_2 : decode cL_painter 2 = .ok (.iload_n 2, 1) := by decide +kernel
theorem dL_painter_3 : decode cL_painter 3 = .ok (.iload_n 3, 1) := by decide +kernel
theorem dL_painter_4 : decode cL_painter 4 = .ok (.invokevirtual 22, 3) := by decide +kernel
theorem dL_painter_7 : decode cL_painter 7 = .ok (.ireturn, 1) := by decide +kernel
theorem dL_painter_8 : decode cL_painter 8 = .ok (.astore 4, 2) := by decide +kernel
theorem dL_painter_10 : decode cL_painter 10 = .ok (.ldc 18, 2) := by decide +kernel
theorem dL_painter_12 : decode cL_painter 12 = .ok (.ireturn, 1) := by decide +kernel
theorem dL_painter_13 : decode cL_painter 13 = .ok (.astore 4, 2) := by decide +kernel
theorem dL_painter_15 : decode cL_painter 15 = .ok (.ldc 21, 2) := by decide +kernel
theorem dL_painter_17 : decode cL_painter 17 = .ok (.ireturn, 1) := by decide +kernel
set_option maxRecDepth 20000 in
theorem ggL_borrow_X5_borrow : GoodIn wsL_borrow wsX5_borrow := goodIn_ca (goodIn_r _ [7, 8, 9, 10, 11, 6, 12, 13, 14, 15, 16, 17, 18, 19, 20, 21, 22, 23, 24, 25, 26, 27, 28, 29, 30, 31, 32, 33, 34, 35, 36, 37, 38, 39, 40, 41, 42, 43, 44, 45, 46, 47, 48, 49, 50, 51, 52, 53, 54, 55, 56, 57, 58, 59, 60, 61, 62] (by decide +kernel) (by decide +kernel)) (goodIn_sub (fun _ h => List.mem_cons_of_mem _ (List.mem_append_right _ h)) (by decide +kernel))
set_option maxRecDepth 20000 in
theorem gL_borrow_X5_borrow : GoodIn wsL_borrow (wsV RL 25 RX5 yX5_borrow wsX5_borrow) := goodIn_app (goodIn_of _ (by decide +kernel)) ggL_borrow_X5_borrow
theorem dL_borrow_0 : decode cL_borrow 0 = .ok (.aload_n 0, 1) := by decide +kernel
theorem dL_borrow_1 : decode cL_borrow 1 = .ok (.iload_n 1, 1) := by decide +kernel
theorem dL_borrow_2 : decode cL_borrow 2 = .ok (.iload_n 2, 1) := by decide +kernel
theorem dL_borrow_3 : decode cL_borrow 3 = .ok (.invokevirtual 25, 3) := by decide +kernel
theorem dL_borrow_6 : decode cL_borrow 6 = .ok (.ireturn, 1) := by decide +kernel
theorem dL_borrow_7 : decode cL_borrow 7 = .ok (.astore_n 3, 1) := by decide +kernel
theorem dL_borrow_8 : decode cL_borrow 8 = .ok (.ldc 18, 2) := by decide +kernel
theorem dL_borrow_10 : decode cL_borrow 10 = .ok (.ireturn, 1) := by decide +kernel
set_option maxRecDepth 20000 in
theorem ggL_label_X5_label : GoodIn wsL_label wsX5_label := goodIn_ca (goodIn_ca (goodIn_r _ [9, 10, 11, 12, 13, 8, 14, 15, 16, 17, 18, 19, 20, 21, 22, 23, 24, 25, 26, 27, 28, 29, 30, 31, 32, 33, 34, 35, 36, 37, 38, 39, 40, 41, 42, 43, 44, 45, 46, 47, 48, 49, 50, 51, 52, 53, 54, 55, 56, 57, 58, 59, 60, 61, 62, 63, 64, 65, 66, 67, 68, 69] (by decide +kernel) (by decide +kernel)) (goodIn_sub (fun _ h => List.mem_cons_of_mem _ (List.mem_append_left _ (List.mem_append_right _ h))) (by decide +kernel))) (goodIn_sub (fun _ h => List.mem_cons_of_mem _ (List.mem_append_right _ h)) (by decide +kernel))
set_option maxRecDepth 20000 in
theorem gL_label_X5_label : GoodIn wsL_label (wsV RL 29 RX5 yX5_label wsX5_label) := goodIn_app (goodIn_of _ (by decide +kernel)) ggL_label_X5_label
theorem dL_label_0 : decode cL_label 0 = .ok (.aload_n 0, 1) := by decide +kernel
theorem dL_label_1 : decode cL_label 1 = .ok (.iload_n 1, 1) := by decide +kernel
theorem dL_label_2 : decode cL_label 2 = .ok (.iload_n 2, 1) := by decide +kernel
theorem dL_label_3 : decode cL_label 3 = .ok (.invokevirtual 29, 3) := by decide +kernel
theorem dL_label_6 : decode cL_label 6 = .ok (.ireturn, 1) := by decide +kernel
theorem dL_label_7 : decode cL_label 7 = .ok (.astore_n 3, 1) := by decide +kernel
theorem dL_label_8 : decode cL_label 8 = .ok (.ldc 18, 2) := by decide +kernel
theorem dL_label_10 : decode cL_label 10 = .ok (.ireturn, 1) := by decide +kernel
theorem dL_label_11 : decode cL_label 11 = .ok (.astore_n 3, 1) := by decide +kernel
theorem dL_label_12 : decode cL_label 12 = .ok (.ldc 21, 2) := by decide +kernel
theorem dL_label_14 : decode cL_label 14 = .ok (.ireturn, 1) := by decide +kernel
set_option maxRecDepth 20000 in
theorem ggL_labelAll_X5_labelAll : GoodIn wsL_labelAll wsX5_labelAll := goodIn_ca (goodIn_r _ [7, 8, 9, 10, 11, 6, 12, 13, 14, 15, 16, 17, 18, 19, 20, 21, 22, 23, 24, 25, 26, 27, 28, 29, 30, 31, 32, 33, 34, 35, 36, 37, 38, 39, 40, 41, 42, 43, 44, 45, 46, 47, 48, 49, 50, 51, 52, 53, 54, 55, 56, 57, 58, 59, 60, 61, 62, 63, 64, 65, 66, 67, 68, 69, 70, 71, 72, 73, 74, 75, 76, 77, 78, 79, 80, 81, 82, 83, 84, 85, 86, 87, 88, 89, 90, 91, 92, 93, 94, 95, 96, 97, 98, 99] (by decide +kernel) (by decide +kernel)) (goodIn_sub (fun _ h => List.mem_cons_of_mem _ (List.mem_append_right _ h)) (by decide +kernel))
set_option maxRecDepth 20000 in
theorem gL_labelAll_X5_labelAll : GoodIn wsL_labelAll (wsV RL 32 RX5 yX5_labelAll wsX5_labelAll) := goodIn_app (goodIn_of _ (by decide +kernel)) ggL_labelAll_X5_labelAll
theorem dL_labelAll_0 : decode cL_labelAll 0 = .ok (.aload_n 0, 1) := by decide +kernel
theorem dL_labelAll_1 : decode cL_labelAll 1 = .ok (.iload_n 1, 1) := by decide +kernel
theorem dL_labelAll_2 : decode cL_labelAll 2 = .ok (.invokevirtual 32, 3) := by decide +kernel
theorem dL_labelAll_5 : decode cL_labelAll 5 = .ok (.ireturn, 1) := by decide +kernel
theorem dL_labelAll_6 : decode cL_labelAll 6 = .ok (.astore_n 2, 1) := by decide +kernel
theorem dL_labelAll_7 : decode cL_labelAll 7 = .ok (.ldc 18, 2) := by decide +kernel
theorem dL_labelAll_9 : decode cL_labelAll 9 = .ok (.ireturn, 1) := by decide +kernel
set_option maxRecDepth 20000 in
theorem ggL_hang_X5_hang : GoodIn wsL_hang wsX5_hang := goodIn_ca (goodIn_ca (goodIn_r _ [9, 10, 11, 12, 13, 8, 14, 15, 16, 17, 18, 19, 20, 21, 22, 23, 24, 25, 26, 27, 28, 29, 30, 31, 32, 33, 34, 35, 36, 37, 38, 39, 40, 41, 42, 43, 44, 45, 46, 47, 48, 49, 50, 51, 52, 53, 54, 55, 56, 57, 58, 59, 60, 61, 62, 63, 64, 65, 66, 67, 68, 69, 70, 71, 72, 73] (by decide +kernel) (by decide +kernel)) (goodIn_sub (fun _ h => List.mem_cons_of_mem _ (List.mem_append_left _ (List.mem_append_right _ h))) (by decide +kernel))) (goodIn_sub (fun _ h => List.mem_cons_of_mem _ (List.mem_append_right _ h)) (by decide +kernel))
set_option maxRecDepth 20000 in
theorem gL_hang_X5_hang : GoodIn wsL_hang (wsV RL 36 RX5 yX5_hang wsX5_hang) := goodIn_app (goodIn_of _ (by decide +kernel)) ggL_hang_X5_hang
theorem dL_hang_0 : decode cL_hang 0 = .ok (.aload_n 0, 1) := by decide +kernel
theorem dL_hang_1 : decode cL_hang 1 = .ok (.iload_n 1, 1) := by decide +kernel
theorem dL_hang_2 : decode cL_hang 2 = .ok (.iload_n 2, 1) := by decide +kernel
theorem dL_hang_3 : decode cL_hang 3 = .ok (.invokevirtual 36, 3) := by decide +kernel
theorem dL_hang_6 : decode cL_hang 6 = .ok (.ireturn, 1) := by decide +kernel
theorem dL_hang_7 : decode cL_hang 7 = .ok (.astore_n 3, 1) := by decide +kernel
theorem dL_hang_8 : decode cL_hang 8 = .ok (.ldc 18, 2) := by decide +kernel
theorem dL_hang_10 : decode cL_hang 10 = .ok (.ireturn, 1) := by decide +kernel
theorem dL_hang_11 : decode cL_hang 11 = .ok (.astore_n 3, 1) := by decide +kernel
theorem dL_hang_12 : decode cL_hang 12 = .ok (.ldc 21, 2) := by decide +kernel
theorem dL_hang_14 : decode cL_hang 14 = .ok (.ireturn, 1) := by decide +kernel
set_option maxRecDepth 20000 in
theorem ggL_takeDown_X5_takeDown : GoodIn wsL_takeDown wsX5_takeDown := goodIn_ca (goodIn_r _ [7, 8, 9, 10, 11, 12, 6, 13, 14, 15, 16, 17, 18, 19, 20, 21, 22, 23, 24, 25, 26, 27, 28, 29, 30, 31, 32, 33, 34, 35, 36, 37, 38, 39, 40, 41, 42, 43, 44, 45, 46, 47, 48, 49, 50, 51, 52, 53, 54, 55, 56, 57, 58, 59, 60, 61, 62, 63, 64, 65, 66, 67, 68, 69, 70, 71, 72, 73, 74, 75, 76, 77, 78, 79, 80, 81, 82, 83, 84, 85, 86, 87, 88, 89, 90, 91, 92, 93, 94, 95, 96, 97] (by decide +kernel) (by decide +kernel)) (goodIn_sub (fun _ h => List.mem_cons_of_mem _ (List.mem_append_right _ h)) (by decide +kernel))
set_option maxRecDepth 20000 in
theorem gL_takeDown_X5_takeDown : GoodIn wsL_takeDown (wsV RL 39 RX5 yX5_takeDown wsX5_takeDown) := goodIn_app (goodIn_of _ (by decide +kernel)) ggL_takeDown_X5_takeDown
theorem dL_takeDown_0 : decode cL_takeDown 0 = .ok (.aload_n 0, 1) := by decide +kernel
theorem dL_takeDown_1 : decode cL_takeDown 1 = .ok (.iload_n 1, 1) := by decide +kernel
theorem dL_takeDown_2 : decode cL_takeDown 2 = .ok (.invokevirtual 39, 3) := by decide +kernel
theorem dL_takeDown_5 : decode cL_takeDown 5 = .ok (.ireturn, 1) := by decide +kernel
theorem dL_takeDown_6 : decode cL_takeDown 6 = .ok (.astore_n 2, 1) := by decide +kernel
theorem dL_takeDown_7 : decode cL_takeDown 7 = .ok (.ldc 18, 2) := by decide +kernel
theorem dL_takeDown_9 : decode cL_takeDown 9 = .ok (.ireturn, 1) := by decide +kernel
set_option maxRecDepth 20000 in
theorem ggL_correct_X5_correct : GoodIn wsL_correct wsX5_correct := goodIn_ca (goodIn_r _ [7, 8, 9, 10, 11, 12, 6, 13, 14, 15, 16, 17, 18, 19, 20, 21, 22, 23, 24, 25, 26, 27, 28, 29, 30, 31, 32, 33, 34, 35, 36, 37, 38, 39, 40, 41, 42, 43, 44, 45, 46, 47, 48, 49, 50, 51, 52, 53, 54, 55, 56, 57, 58, 59, 60, 61, 62, 63, 64, 65, 66, 67, 68, 69, 70, 71, 72, 73, 74, 75, 76, 77, 78, 79, 80, 81, 82, 83, 84, 85, 86, 87, 88, 89, 90, 91, 92, 93] (by decide +kernel) (by decide +kernel)) (goodIn_sub (fun _ h => List.mem_cons_of_mem _ (List.mem_append_right _ h)) (by decide +kernel))
set_option maxRecDepth 20000 in
theorem gL_correct_X5_correct : GoodIn wsL_correct (wsV RL 42 RX5 yX5_correct wsX5_correct) := goodIn_app (goodIn_of _ (by decide +kernel)) ggL_correct_X5_correct
theorem dL_correct_0 : decode cL_correct 0 = .ok (.aload_n 0, 1) := by decide +kernel
theorem dL_correct_1 : decode cL_correct 1 = .ok (.iload_n 1, 1) := by decide +kernel
theorem dL_correct_2 : decode cL_correct 2 = .ok (.iload_n 2, 1) := by decide +kernel
theorem dL_correct_3 : decode cL_correct 3 = .ok (.invokevirtual 42, 3) := by decide +kernel
theorem dL_correct_6 : decode cL_correct 6 = .ok (.ireturn, 1) := by decide +kernel
theorem dL_correct_7 : decode cL_correct 7 = .ok (.astore_n 3, 1) := by decide +kernel
theorem dL_correct_8 : decode cL_correct 8 = .ok (.ldc 18, 2) := by decide +kernel
theorem dL_correct_10 : decode cL_correct 10 = .ok (.ireturn, 1) := by decide +kernel
set_option maxRecDepth 20000 in
theorem ggL_append_X5_append : GoodIn wsL_append wsX5_append := goodIn_ca (goodIn_ca (goodIn_r _ [9, 10, 11, 12, 13, 14, 8, 15, 16, 17, 18, 19, 20, 21, 22, 23, 24, 25, 26, 27, 28, 29, 30, 31, 32, 33, 34] (by decide +kernel) (by decide +kernel)) (goodIn_sub (fun _ h => List.mem_cons_of_mem _ (List.mem_append_left _ (List.mem_append_right _ h))) (by decide +kernel))) (goodIn_sub (fun _ h => List.mem_cons_of_mem _ (List.mem_append_right _ h)) (by decide +kernel))
set_option maxRecDepth 20000 in
theorem gL_append_X5_append : GoodIn wsL_append (wsV RL 45 RX5 yX5_append wsX5_append) := goodIn_app (goodIn_of _ (by decide +kernel)) ggL_append_X5_append
theorem dL_append_0 : decode cL_append 0 = .ok (.aload_n 0, 1) := by decide +kernel
theorem dL_append_1 : decode cL_append 1 = .ok (.iload_n 1, 1) := by decide +kernel
theorem dL_append_2 : decode cL_append 2 = .ok (.invokevirtual 45, 3) := by decide +kernel
theorem dL_append_5 : decode cL_append 5 = .ok (.ireturn, 1) := by decide +kernel
theorem dL_append_6 : decode cL_append 6 = .ok (.astore_n 2, 1) := by decide +kernel
theorem dL_append_7 : decode cL_append 7 = .ok (.ldc 18, 2) := by decide +kernel
theorem dL_append_9 : decode cL_append 9 = .ok (.ireturn, 1) := by decide +kernel
theorem dL_append_10 : decode cL_append 10 = .ok (.astore_n 2, 1) := by decide +kernel
theorem dL_append_11 : decode cL_append 11 = .ok (.ldc 21, 2) := by decide +kernel
theorem dL_append_13 : decode cL_append 13 = .ok (.ireturn, 1) := by decide +kernel
set_option maxRecDepth 20000 in
theorem ggL_load_X5_load : GoodIn wsL_load wsX5_load := goodIn_ca (goodIn_r _ [7, 8, 9, 10, 11, 12, 13, 14, 15, 16, 17, 18, 19, 20, 21, 22, 23, 24, 25, 26, 27, 28, 29, 30, 31, 32, 33, 34, 35, 36, 37, 38, 39, 40, 41, 42, 43, 44, 45, 46, 47, 48, 49, 50, 51, 52, 53, 54, 55, 56, 57, 58, 59, 60, 61, 62, 63, 64, 65, 66, 67, 68, 69, 70, 71, 72, 73, 74, 75, 76, 77, 78, 79, 80, 81, 82, 83, 84, 85, 86, 87, 88, 89, 90, 91, 92, 93, 94, 95, 96, 97, 98, 99, 100, 101, 102, 103] (by decide +kernel) (by decide +kernel)) (goodIn_sub (fun _ h => List.mem_cons_of_mem _ (List.mem_append_right _ h)) (by decide +kernel))
set_option maxRecDepth 20000 in
theorem gL_load_X5_load : GoodIn wsL_load (wsV RL 50 RX5 yX5_load wsX5_load) := goodIn_app (goodIn_of _ (by decide +kernel)) ggL_load_X5_load
theorem dL_load_0 : decode cL_load 0 = .ok (.aload_n 0, 1) := by decide +kernel
theorem dL_load_1 : decode cL_load 1 = .ok (.invokevirtual 50, 3) := by decide +kernel
theorem dL_load_4 : decode cL_load 4 = .ok (.ireturn, 1) := by decide +kernel
theorem dL_load_5 : decode cL_load 5 = .ok (.astore_n 1, 1) := by decide +kernel
theorem dL_load_6 : decode cL_load 6 = .ok (.ldc 18, 2) := by decide +kernel
theorem dL_load_8 : decode cL_load 8 = .ok (.ireturn, 1) := by decide +kernel
set_option maxRecDepth 20000 in
theorem ggL_undo_X5_undo : GoodIn wsL_undo wsX5_undo := goodIn_ca (goodIn_r _ [7, 8, 9, 10, 11, 12, 13, 14, 15, 16, 17, 18, 19, 20, 21, 22, 23, 24, 25, 26, 27, 28, 29, 30, 31, 32, 33, 34, 35, 36, 37, 38, 39, 40, 41, 42, 43, 44, 45, 46, 47, 48, 49, 50, 51, 52, 53, 54, 55] (by decide +kernel) (by decide +kernel)) (goodIn_sub (fun _ h => List.mem_cons_of_mem _ (List.mem_append_right _ h)) (by decide +kernel))
set_option maxRecDepth 20000 in
theorem gL_undo_X5_undo : GoodIn wsL_undo (wsV RL 54 RX5 yX5_undo wsX5_undo) := goodIn_app (goodIn_of _ (by decide +kernel)) ggL_undo_X5_undo
theorem dL_undo_0 : decode cL_undo 0 = .ok (.aload_n 0, 1) := by decide +kernel
theorem dL_undo_1 : decode cL_undo 1 = .ok (.invokevirtual 54, 3) := by decide +kernel
theorem dL_undo_4 : decode cL_undo 4 = .ok (.ireturn, 1) := by decide +kernel
theorem dL_undo_5 : decode cL_undo 5 = .ok (.astore_n 1, 1) := by decide +kernel
theorem dL_undo_6 : decode cL_undo 6 = .ok (.ldc 18, 2) := by decide +kernel
theorem dL_undo_8 : decode cL_undo 8 = .ok (.ireturn, 1) := by decide +kernel
set_option maxRecDepth 20000 in
theorem ggL_potOf_X5_potOf : GoodIn wsL_potOf wsX5_potOf := goodIn_ca (goodIn_ca (goodIn_r _ [9, 10, 11, 12, 8, 13, 14, 15, 16, 17, 18, 19, 20, 21, 22, 23, 24, 25, 26, 27, 28, 29, 30, 31, 32, 33, 34, 35, 36, 37, 38, 39, 40, 41, 42, 43, 44, 45, 46, 47, 48, 49, 50, 51, 52, 53, 54, 55, 56, 57, 58, 59, 60, 61, 62, 63, 64, 65] (by decide +kernel) (by decide +kernel)) (goodIn_sub (fun _ h => List.mem_cons_of_mem _ (List.mem_append_left _ (List.mem_append_right _ h))) (by decide +kernel))) (goodIn_sub (fun _ h => List.mem_cons_of_mem _ (List.mem_append_right _ h)) (by decide +kernel))
set_option maxRecDepth 20000 in
theorem gL_potOf_X5_potOf : GoodIn wsL_potOf (wsV RL 57 RX5 yX5_potOf wsX5_potOf) := goodIn_app (goodIn_of _ (by decide +kernel)) ggL_potOf_X5_potOf
theorem dL_potOf_0 : decode cL_potOf 0 = .ok (.aload_n 0, 1) := by decide +kernel
theorem dL_potOf_1 : decode cL_potOf 1 = .ok (.iload_n 1, 1) := by decide +kernel
theorem dL_potOf_2 : decode cL_potOf 2 = .ok (.iload_n 2, 1) := by decide +kernel
theorem dL_potOf_3 : decode cL_potOf 3 = .ok (.invokevirtual 57, 3) := by decide +kernel
theorem dL_potOf_6 : decode cL_potOf 6 = .ok (.ireturn, 1) := by decide +kernel
theorem dL_potOf_7 : decode cL_potOf 7 = .ok (.astore_n 3, 1) := by decide +kernel
theorem dL_potOf_8 : decode cL_potOf 8 = .ok (.ldc 18, 2) := by decide +kernel
theorem dL_potOf_10 : decode cL_potOf 10 = .ok (.ireturn, 1) := by decide +kernel
theorem dL_potOf_11 : decode cL_potOf 11 = .ok (.astore_n 3, 1) := by decide +kernel
theorem dL_potOf_12 : decode cL_potOf 12 = .ok (.ldc 21, 2) := by decide +kernel
theorem dL_potOf_14 : decode cL_potOf 14 = .ok (.ireturn, 1) := by decide +kernel
set_option maxRecDepth 20000 in
theorem ggL_seen_X5_seen : GoodIn wsL_seen wsX5_seen := goodIn_ca (goodIn_r _ [7, 8, 9, 10, 6, 11, 12, 13, 14, 15, 16, 17, 18, 19, 20, 21, 22, 23, 24, 25, 26, 27, 28, 29, 30, 31, 32, 33, 34] (by decide +kernel) (by decide +kernel)) (goodIn_sub (fun _ h => List.mem_cons_of_mem _ (List.mem_append_right _ h)) (by decide +kernel))
set_option maxRecDepth 20000 in
theorem gL_seen_X5_seen : GoodIn wsL_seen (wsV RL 60 RX5 yX5_seen wsX5_seen) := goodIn_app (goodIn_of _ (by decide +kernel)) ggL_seen_X5_seen
theorem dL_seen_0 : decode cL_seen 0 = .ok (.aload_n 0, 1) := by decide +kernel
theorem dL_seen_1 : decode cL_seen 1 = .ok (.iload_n 1, 1) := by decide +kernel
theorem dL_seen_2 : decode cL_seen 2 = .ok (.iload_n 2, 1) := by decide +kernel
theorem dL_seen_3 : decode cL_seen 3 = .ok (.invokevirtual 60, 3) := by decide +kernel
theorem dL_seen_6 : decode cL_seen 6 = .ok (.ireturn, 1) := by decide +kernel
theorem dL_seen_7 : decode cL_seen 7 = .ok (.astore_n 3, 1) := by decide +kernel
theorem dL_seen_8 : decode cL_seen 8 = .ok (.ldc 18, 2) := by decide +kernel
theorem dL_seen_10 : decode cL_seen 10 = .ok (.ireturn, 1) := by decide +kernel
set_option maxRecDepth 20000 in
theorem ggL_painterOf_X5_painterOf : GoodIn wsL_painterOf wsX5_painterOf := goodIn_ca (goodIn_ca (goodIn_r _ [9, 10, 11, 12, 13, 14, 8, 15, 16, 17, 18, 19, 20, 21, 22, 23, 24, 25, 26, 27, 28, 29, 30, 31, 32, 33, 34, 35, 36, 37, 38, 39, 40, 41, 42, 43, 44, 45, 46, 47, 48, 49, 50, 51, 52, 53, 54, 55, 56, 57, 58, 59, 60, 61, 62, 63, 64, 65, 66, 67, 68, 69, 70, 71] (by decide +kernel) (by decide +kernel)) (goodIn_sub (fun _ h => List.mem_cons_of_mem _ (List.mem_append_left _ (List.mem_append_right _ h))) (by decide +kernel))) (goodIn_sub (fun _ h => List.mem_cons_of_mem _ (List.mem_append_right _ h)) (by decide +kernel))
set_option maxRecDepth 20000 in
theorem gL_painterOf_X5_painterOf : GoodIn wsL_painterOf (wsV RL 63 RX5 yX5_painterOf wsX5_painterOf) := goodIn_app (goodIn_of _ (by decide +kernel)) ggL_painterOf_X5_painterOf
theorem dL_painterOf_0 : decode cL_painterOf 0 = .ok (.aload_n 0, 1) := by decide +kernel
theorem dL_painterOf_1 : decode cL_painterOf 1 = .ok (.iload_n 1, 1) := by decide +kernel
theorem dL_painterOf_2 : decode cL_painterOf 2 = .ok (.iload_n 2, 1) := by decide +kernel
theorem dL_painterOf_3 : decode cL_painterOf 3 = .ok (.invokevirtual 63, 3) := by decide +kernel
theorem dL_painterOf_6 : decode cL_painterOf 6 = .ok (.ireturn, 1) := by decide +kernel
theorem dL_painterOf_7 : decode cL_painterOf 7 = .ok (.astore_n 3, 1) := by decide +kernel
theorem dL_painterOf_8 : decode cL_painterOf 8 = .ok (.ldc 18, 2) := by decide +kernel
theorem dL_painterOf_10 : decode cL_painterOf 10 = .ok (.ireturn, 1) := by decide +kernel
theorem dL_painterOf_11 : decode cL_painterOf 11 = .ok (.astore_n 3, 1) := by decide +kernel
theorem dL_painterOf_12 : decode cL_painterOf 12 = .ok (.ldc 21, 2) := by decide +kernel
theorem dL_painterOf_14 : decode cL_painterOf 14 = .ok (.ireturn, 1) := by decide +kernel
set_option maxRecDepth 20000 in
theorem ggL_apart_X5_apart : GoodIn wsL_apart wsX5_apart := goodIn_ca (goodIn_r _ [7, 8, 9, 10, 6, 11, 12, 13, 14, 15, 16, 17, 18, 19, 20, 21, 22, 23, 24, 25, 26, 27, 28, 29, 30, 31, 32, 33, 34, 35, 36, 37, 38, 39, 40, 41, 42, 43, 44, 45, 46, 47, 48, 49, 50, 51, 52, 53, 54] (by decide +kernel) (by decide +kernel)) (goodIn_sub (fun _ h => List.mem_cons_of_mem _ (List.mem_append_right _ h)) (by decide +kernel))
set_option maxRecDepth 20000 in
theorem gL_apart_X5_apart : GoodIn wsL_apart (wsV RL 66 RX5 yX5_apart wsX5_apart) := goodIn_app (goodIn_of _ (by decide +kernel)) ggL_apart_X5_apart
theorem dL_apart_0 : decode cL_apart 0 = .ok (.aload_n 0, 1) := by decide +kernel
theorem dL_apart_1 : decode cL_apart 1 = .ok (.iload_n 1, 1) := by decide +kernel
theorem dL_apart_2 : decode cL_apart 2 = .ok (.iload_n 2, 1) := by decide +kernel
theorem dL_apart_3 : decode cL_apart 3 = .ok (.iload_n 3, 1) := by decide +kernel
theorem dL_apart_4 : decode cL_apart 4 = .ok (.invokevirtual 66, 3) := by decide +kernel
theorem dL_apart_7 : decode cL_apart 7 = .ok (.ireturn, 1) := by decide +kernel
theorem dL_apart_8 : decode cL_apart 8 = .ok (.astore 4, 2) := by decide +kernel
theorem dL_apart_10 : decode cL_apart 10 = .ok (.ldc 18, 2) := by decide +kernel
theorem dL_apart_12 : decode cL_apart 12 = .ok (.ireturn, 1) := by decide +kernel
set_option maxRecDepth 20000 in
theorem ggL_chartOf_X5_chartOf : GoodIn wsL_chartOf wsX5_chartOf := goodIn_ca (goodIn_ca (goodIn_r _ [9, 10, 11, 12, 13, 14, 15, 8, 16, 17, 18, 19, 20, 21, 22, 23, 24, 25, 26, 27, 28, 29, 30, 31, 32, 33, 34, 35, 36, 37, 38, 39, 40, 41, 42, 43, 44, 45, 46, 47, 48, 49, 50, 51, 52, 53, 54, 55, 56, 57, 58, 59, 60, 61, 62] (by decide +kernel) (by decide +kernel)) (goodIn_sub (fun _ h => List.mem_cons_of_mem _ (List.mem_append_left _ (List.mem_append_right _ h))) (by decide +kernel))) (goodIn_sub (fun _ h => List.mem_cons_of_mem _ (List.mem_append_right _ h)) (by decide +kernel))
set_option maxRecDepth 20000 in
theorem gL_chartOf_X5_chartOf : GoodIn wsL_chartOf (wsV RL 69 RX5 yX5_chartOf wsX5_chartOf) := goodIn_app (goodIn_of _ (by decide +kernel)) ggL_chartOf_X5_chartOf
theorem dL_chartOf_0 : decode cL_chartOf 0 = .ok (.aload_n 0, 1) := by decide +kernel
theorem dL_chartOf_1 : decode cL_chartOf 1 = .ok (.iload_n 1, 1) := by decide +kernel
theorem dL_chartOf_2 : decode cL_chartOf 2 = .ok (.iload_n 2, 1) := by decide +kernel
theorem dL_chartOf_3 : decode cL_chartOf 3 = .ok (.invokevirtual 69, 3) := by decide +kernel
theorem dL_chartOf_6 : decode cL_chartOf 6 = .ok (.ireturn, 1) := by decide +kernel
theorem dL_chartOf_7 : decode cL_chartOf 7 = .ok (.astore_n 3, 1) := by decide +kernel
theorem dL_chartOf_8 : decode cL_chartOf 8 = .ok (.ldc 18, 2) := by decide +kernel
theorem dL_chartOf_10 : decode cL_chartOf 10 = .ok (.ireturn, 1) := by decide +kernel
theorem dL_chartOf_11 : decode cL_chartOf 11 = .ok (.astore_n 3, 1) := by decide +kernel
theorem dL_chartOf_12 : decode cL_chartOf 12 = .ok (.ldc 21, 2) := by decide +kernel
theorem dL_chartOf_14 : decode cL_chartOf 14 = .ok (.ireturn, 1) := by decide +kernel
set_option maxRecDepth 20000 in
theorem ggL_count_X5_count : GoodIn wsL_count wsX5_count := goodIn_ca (goodIn_r _ [7, 8, 9, 10, 11, 12, 13, 14, 15, 16, 17, 18, 19, 20, 21, 22, 23, 24, 25, 26, 27, 28, 29, 30, 31, 32, 33, 34, 35, 36, 37, 38, 39, 40, 41, 42, 43, 44, 45, 46, 47, 48, 49, 50, 51, 52, 53, 54, 55, 56, 57, 58, 59, 60, 61, 62, 63, 64, 65, 66, 67, 68, 69, 70, 71, 72, 73, 74, 75, 76, 77, 78, 79, 80, 81, 82, 83, 84, 85] (by decide +kernel) (by decide +kernel)) (goodIn_sub (fun _ h => List.mem_cons_of_mem _ (List.mem_append_right _ h)) (by decide +kernel))
set_option maxRecDepth 20000 in
theorem gL_count_X5_count : GoodIn wsL_count (wsV RL 72 RX5 yX5_count wsX5_count) := goodIn_app (goodIn_of _ (by decide +kernel)) ggL_count_X5_count
theorem dL_count_0 : decode cL_count 0 = .ok (.aload_n 0, 1) := by decide +kernel
theorem dL_count_1 : decode cL_count 1 = .ok (.iload_n 1, 1) := by decide +kernel
theorem dL_count_2 : decode cL_count 2 = .ok (.invokevirtual 72, 3) := by decide +kernel
theorem dL_count_5 : decode cL_count 5 = .ok (.ireturn, 1) := by decide +kernel
theorem dL_count_6 : decode cL_count 6 = .ok (.astore_n 2, 1) := by decide +kernel
theorem dL_count_7 : decode cL_count 7 = .ok (.ldc 18, 2) := by decide +kernel
theorem dL_count_9 : decode cL_count 9 = .ok (.ireturn, 1) := by decide +kernel
set_option maxRecDepth 20000 in
theorem ggL_fewest_X5_fewest : GoodIn wsL_fewest wsX5_fewest := goodIn_ca (goodIn_ca (goodIn_r _ [9, 10, 11, 12, 13, 8, 14, 15, 16, 17, 18, 19, 20, 21, 22, 23, 24, 25, 26, 27, 28, 29, 30, 31, 32, 33, 34, 35, 36, 37, 38, 39, 40, 41, 42, 43, 44, 45, 46, 47, 48, 49, 50, 51, 52, 53, 54, 55, 56, 57, 58, 59, 60, 61, 62, 63, 64, 65, 66, 67, 68, 69, 70, 71, 72, 73, 74, 75, 76, 77, 78, 79, 80, 81, 82, 83, 84, 85, 86, 87, 88, 89, 90] (by decide +kernel) (by decide +kernel)) (goodIn_sub (fun _ h => List.mem_cons_of_mem _ (List.mem_append_left _ (List.mem_append_right _ h))) (by decide +kernel))) (goodIn_sub (fun _ h => List.mem_cons_of_mem _ (List.mem_append_right _ h)) (by decide +kernel))
set_option maxRecDepth 20000 in
theorem gL_fewest_X5_fewest : GoodIn wsL_fewest (wsV RL 75 RX5 yX5_fewest wsX5_fewest) := goodIn_app (goodIn_of _ (by decide +kernel)) ggL_fewest_X5_fewest
theorem dL_fewest_0 : decode cL_fewest 0 = .ok (.aload_n 0, 1) := by decide +kernel
theorem dL_fewest_1 : decode cL_fewest 1 = .ok (.iload_n 1, 1) := by decide +kernel
theorem dL_fewest_2 : decode cL_fewest 2 = .ok (.iload_n 2, 1) := by decide +kernel
theorem dL_fewest_3 : decode cL_fewest 3 = .ok (.invokevirtual 75, 3) := by decide +kernel
theorem dL_fewest_6 : decode cL_fewest 6 = .ok (.ireturn, 1) := by decide +kernel
theorem dL_fewest_7 : decode cL_fewest 7 = .ok (.astore_n 3, 1) := by decide +kernel
theorem dL_fewest_8 : decode cL_fewest 8 = .ok (.ldc 18, 2) := by decide +kernel
theorem dL_fewest_10 : decode cL_fewest 10 = .ok (.ireturn, 1) := by decide +kernel
theorem dL_fewest_11 : decode cL_fewest 11 = .ok (.astore_n 3, 1) := by decide +kernel
theorem dL_fewest_12 : decode cL_fewest 12 = .ok (.ldc 21, 2) := by decide +kernel
theorem dL_fewest_14 : decode cL_fewest 14 = .ok (.ireturn, 1) := by decide +kernel
set_option maxRecDepth 20000 in
theorem ggL_ifBorrowed_X5_ifBorrowed : GoodIn wsL_ifBorrowed wsX5_ifBorrowed := goodIn_ca (goodIn_r _ [7, 8, 9, 10, 6, 11, 12, 13, 14, 15, 16, 17, 18, 19, 20, 21, 22, 23, 24, 25, 26, 27, 28, 29, 30, 31, 32, 33, 34, 35, 36, 37, 38, 39, 40, 41, 42, 43, 44, 45, 46, 47, 48, 49, 50] (by decide +kernel) (by decide +kernel)) (goodIn_sub (fun _ h => List.mem_cons_of_mem _ (List.mem_append_right _ h)) (by decide +kernel))
set_option maxRecDepth 20000 in
theorem gL_ifBorrowed_X5_ifBorrowed : GoodIn wsL_ifBorrowed (wsV RL 78 RX5 yX5_ifBorrowed wsX5_ifBorrowed) := goodIn_app (goodIn_of _ (by decide +kernel)) ggL_ifBorrowed_X5_ifBorrowed
theorem dL_ifBorrowed_0 : decode cL_ifBorrowed 0 = .ok (.aload_n 0, 1) := by decide +kernel
theorem dL_ifBorrowed_1 : decode cL_ifBorrowed 1 = .ok (.iload_n 1, 1) := by decide +kernel
theorem dL_ifBorrowed_2 : decode cL_ifBorrowed 2 = .ok (.iload_n 2, 1) := by decide +kernel
theorem dL_ifBorrowed_3 : decode cL_ifBorrowed 3 = .ok (.invokevirtual 78, 3) := by decide +kernel
theorem dL_ifBorrowed_6 : decode cL_ifBorrowed 6 = .ok (.ireturn, 1) := by decide +kernel
theorem dL_ifBorrowed_7 : decode cL_ifBorrowed 7 = .ok (.astore_n 3, 1) := by decide +kernel
theorem dL_ifBorrowed_8 : decode cL_ifBorrowed 8 = .ok (.ldc 18, 2) := by decide +kernel
theorem dL_ifBorrowed_10 : decode cL_ifBorrowed 10 = .ok (.ireturn, 1) := by decide +kernel
set_option maxRecDepth 20000 in
theorem ggL_leastChange_X5_leastChange : GoodIn wsL_leastChange wsX5_leastChange := goodIn_ca (goodIn_ca (goodIn_r _ [9, 10, 11, 12, 8, 13, 14, 15, 16, 17, 18, 19, 20, 21, 22, 23, 24, 25, 26, 27, 28, 29, 30, 31, 32, 33, 34, 35, 36, 37, 38, 39, 40, 41, 42, 43, 44, 45, 46, 47, 48, 49, 50, 51, 52, 53, 54, 55, 56, 57, 58, 59, 60, 61, 62, 63, 64, 65, 66] (by decide +kernel) (by decide +kernel)) (goodIn_sub (fun _ h => List.mem_cons_of_mem _ (List.mem_append_left _ (List.mem_append_right _ h))) (by decide +kernel))) (goodIn_sub (fun _ h => List.mem_cons_of_mem _ (List.mem_append_right _ h)) (by decide +kernel))
set_option maxRecDepth 20000 in
theorem gL_leastChange_X5_leastChange : GoodIn wsL_leastChange (wsV RL 81 RX5 yX5_leastChange wsX5_leastChange) := goodIn_app (goodIn_of _ (by decide +kernel)) ggL_leastChange_X5_leastChange
theorem dL_leastChange_0 : decode cL_leastChange 0 = .ok (.aload_n 0, 1) := by decide +kernel
theorem dL_leastChange_1 : decode cL_leastChange 1 = .ok (.iload_n 1, 1) := by decide +kernel
theorem dL_leastChange_2 : decode cL_leastChange 2 = .ok (.iload_n 2, 1) := by decide +kernel
theorem dL_leastChange_3 : decode cL_leastChange 3 = .ok (.iload_n 3, 1) := by decide +kernel
theorem dL_leastChange_4 : decode cL_leastChange 4 = .ok (.invokevirtual 81, 3) := by decide +kernel
theorem dL_leastChange_7 : decode cL_leastChange 7 = .ok (.ireturn, 1) := by decide +kernel
theorem dL_leastChange_8 : decode cL_leastChange 8 = .ok (.astore 4, 2) := by decide +kernel
theorem dL_leastChange_10 : decode cL_leastChange 10 = .ok (.ldc 18, 2) := by decide +kernel
theorem dL_leastChange_12 : decode cL_leastChange 12 = .ok (.ireturn, 1) := by decide +kernel
theorem dL_leastChange_13 : decode cL_leastChange 13 = .ok (.astore 4, 2) := by decide +kernel
theorem dL_leastChange_15 : decode cL_leastChange 15 = .ok (.ldc 21, 2) := by decide +kernel
theorem dL_leastChange_17 : decode cL_leastChange 17 = .ok (.ireturn, 1) := by decide +kernel
set_option maxRecDepth 20000 in
theorem ggL_act_L_low : GoodIn wsL_act wsL_low := goodIn_r _ [4, 5] (by decide +kernel) (by decide +kernel)
set_option maxRecDepth 20000 in
theorem gL_act_L_low : GoodIn wsL_act (va_wsS RL 84 yL_low wsL_low) := goodIn_app (goodIn_of _ (by decide +kernel)) ggL_act_L_low
set_option maxRecDepth 20000 in
theorem ggL_act_X5_clearBuffer : GoodIn wsL_act wsX5_clearBuffer := goodIn_r _ [10, 11, 12, 13, 14, 15, 16, 17, 248, 249, 250, 251, 252, 253] (by decide +kernel) (by decide +kernel)
set_option maxRecDepth 20000 in
theorem gL_act_X5_clearBuffer : GoodIn wsL_act (wsV RL 89 RX5 yX5_clearBuffer wsX5_clearBuffer) := goodIn_app (goodIn_of _ (by decide +kernel)) ggL_act_X5_clearBuffer
set_option maxRecDepth 20000 in
theorem ggL_act_L_append : GoodIn wsL_act wsL_append := goodIn_ca (goodIn_ca (goodIn_r _ [20, 21, 22, 23, 24, 25, 26, 27, 9, 28, 29, 30, 11, 31, 32, 33, 34, 35, 36, 37, 38, 15, 39, 17, 40, 41, 42, 43, 44, 248, 249, 250, 251, 252, 253] (by decide +kernel) (by decide +kernel)) (goodIn_sub (fun _ h => List.mem_cons_of_mem _ (List.mem_append_left _ (List.mem_append_left _ (List.mem_append_right _ h)))) (by decide +kernel))) (goodIn_sub (fun _ h => List.mem_cons_of_mem _ (List.mem_append_left _ (List.mem_append_right _ h))) (by decide +kernel))
set_option maxRecDepth 20000 in
theorem gL_act_L_append : GoodIn wsL_act (va_wsS RL 92 yL_append wsL_append) := goodIn_app (goodIn_of _ (by decide +kernel)) ggL_act_L_append
set_option maxRecDepth 20000 in
theorem ggL_act_L_load : GoodIn wsL_act wsL_load := goodIn_ca (goodIn_r _ [47, 21, 23, 48, 49, 50, 9, 51, 34, 35, 11, 52, 53, 54, 55, 56, 15, 57, 17, 58, 59, 60, 61, 44, 62, 63, 64, 65, 66, 67, 68, 69, 70, 71, 72, 73, 74, 75, 76, 77, 78, 79, 80, 81, 82, 83, 84, 85, 86, 87, 88, 89, 90, 91, 92, 93, 94, 95, 96, 97, 98, 12, 13, 14, 16, 99, 100, 101, 102, 103, 104, 105, 106, 107, 108, 109, 110, 111, 112, 113, 114, 115, 116, 117, 248, 249, 250, 251, 254, 255, 256, 257, 258, 259, 260, 261, 262, 263, 252, 253, 264, 265, 266, 267] (by decide +kernel) (by decide +kernel)) (goodIn_sub (fun _ h => List.mem_cons_of_mem _ (List.mem_append_left _ (List.mem_append_right _ h))) (by decide +kernel))
set_option maxRecDepth 20000 in
theorem gL_act_L_load : GoodIn wsL_act (va_wsS RL 95 yL_load wsL_load) := goodIn_app (goodIn_of _ (by decide +kernel)) ggL_act_L_load
set_option maxRecDepth 20000 in
theorem ggL_act_L_hang : GoodIn wsL_act wsL_hang := goodIn_ca (goodIn_ca (goodIn_r _ [120, 121, 21, 23, 24, 122, 123, 124, 9, 125, 52, 53, 126, 127, 128, 129, 130, 131, 132, 133, 34, 35, 65, 66, 67, 68, 69, 70, 71, 72, 73, 74, 75, 76, 77, 78, 79, 80, 81, 82, 83, 84, 85, 86, 87, 88, 89, 90, 91, 92, 93, 94, 134, 135, 136, 137, 248, 249, 250, 251, 264, 265, 266, 267, 254, 255, 256, 257, 258, 259, 260, 261, 262, 263] (by decide +kernel) (by decide +kernel)) (goodIn_sub (fun _ h => List.mem_cons_of_mem _ (List.mem_append_right _ h)) (by decide +kernel))) (goodIn_sub (fun _ h => List.mem_cons_of_mem _ (List.mem_append_left _ (List.mem_append_right _ h))) (by decide +kernel))
set_option maxRecDepth 20000 in
theorem gL_act_L_hang : GoodIn wsL_act (va_wsS RL 98 yL_hang wsL_hang) := goodIn_app (goodIn_of _ (by decide +kernel)) ggL_act_L_hang
set_option maxRecDepth 20000 in
theorem ggL_act_L_takeDown : GoodIn wsL_act wsL_takeDown := goodIn_ca (goodIn_r _ [140, 121, 23, 141, 142, 143, 9, 144, 52, 53, 145, 146, 147, 148, 129, 130, 65, 66, 67, 68, 69, 70, 71, 72, 73, 74, 75, 76, 77, 78, 79, 80, 81, 82, 83, 84, 85, 86, 87, 88, 89, 90, 91, 92, 93, 94, 149, 150, 151, 152, 153, 154, 155, 156, 103, 104, 105, 106, 107, 108, 109, 110, 111, 112, 113, 114, 115, 116, 117, 157, 158, 159, 160, 161, 162, 163, 164, 165, 166, 167, 248, 249, 250, 251, 254, 255, 256, 257, 258, 259, 260, 261, 262, 263, 264, 265, 266, 267] (by decide +kernel) (by decide +kernel)) (goodIn_sub (fun _ h => List.mem_cons_of_mem _ (List.mem_append_right _ h)) (by decide +kernel))
set_option maxRecDepth 20000 in
theorem gL_act_L_takeDown : GoodIn wsL_act (va_wsS RL 101 yL_takeDown wsL_takeDown) := goodIn_app (goodIn_of _ (by decide +kernel)) ggL_act_L_takeDown
set_option maxRecDepth 20000 in
theorem ggL_act_L_correct : GoodIn wsL_act wsL_correct := goodIn_ca (goodIn_r _ [170, 121, 23, 171, 172, 173, 9, 174, 52, 53, 145, 146, 147, 148, 129, 130, 175, 176, 177, 65, 66, 67, 68, 69, 70, 71, 72, 73, 74, 75, 76, 77, 78, 79, 80, 81, 82, 83, 84, 85, 86, 87, 88, 89, 90, 91, 92, 93, 94, 178, 179, 180, 181, 182, 183, 184, 185, 186, 187, 109, 188, 189, 108, 110, 111, 112, 113, 114, 115, 116, 117, 103, 104, 105, 106, 107, 248, 249, 250, 251, 254, 255, 256, 257, 258, 259, 260, 261, 262, 263, 264, 265, 266, 267] (by decide +kernel) (by decide +kernel)) (goodIn_sub (fun _ h => List.mem_cons_of_mem _ (List.mem_append_right _ h)) (by decide +kernel))
set_option maxRecDepth 20000 in
theorem gL_act_L_correct : GoodIn wsL_act (va_wsS RL 103 yL_correct wsL_correct) := goodIn_app (goodIn_of _ (by decide +kernel)) ggL_act_L_correct
set_option maxRecDepth 20000 in
theorem ggL_act_L_labelAll : GoodIn wsL_act wsL_labelAll := goodIn_ca (goodIn_r _ [192, 121, 23, 193, 194, 195, 9, 196, 52, 53, 175, 176, 177, 129, 130, 65, 66, 67, 68, 69, 70, 71, 72, 73, 74, 75, 76, 77, 78, 79, 80, 81, 82, 83, 84, 85, 86, 87, 88, 89, 90, 91, 92, 93, 94, 197, 198, 199, 200, 201, 202, 203, 204, 103, 104, 105, 106, 107, 108, 109, 110, 111, 112, 113, 114, 115, 116, 117, 205, 206, 207, 208, 209, 210, 211, 212, 158, 159, 160, 161, 162, 163, 248, 249, 250, 251, 264, 265, 266, 267, 254, 255, 256, 257, 258, 259, 260, 261, 262, 263] (by decide +kernel) (by decide +kernel)) (goodIn_sub (fun _ h => List.mem_cons_of_mem _ (List.mem_append_right _ h)) (by decide +kernel))
set_option maxRecDepth 20000 in
theorem gL_act_L_labelAll : GoodIn wsL_act (va_wsS RL 105 yL_labelAll wsL_labelAll) := goodIn_app (goodIn_of _ (by decide +kernel)) ggL_act_L_labelAll
set_option maxRecDepth 20000 in
theorem ggL_act_L_label : GoodIn wsL_act wsL_label := goodIn_ca (goodIn_ca (goodIn_r _ [215, 121, 21, 23, 24, 216, 217, 218, 9, 219, 52, 53, 126, 127, 128, 129, 130, 31, 32, 33, 34, 35, 65, 66, 67, 68, 69, 70, 71, 72, 73, 74, 75, 76, 77, 78, 79, 80, 81, 82, 83, 84, 85, 86, 87, 88, 89, 90, 91, 92, 93, 94, 248, 249, 250, 251, 254, 255, 256, 257, 258, 259, 260, 261, 262, 263, 264, 265, 266, 267] (by decide +kernel) (by decide +kernel)) (goodIn_sub (fun _ h => List.mem_cons_of_mem _ (List.mem_append_right _ h)) (by decide +kernel))) (goodIn_sub (fun _ h => List.mem_cons_of_mem _ (List.mem_append_left _ (List.mem_append_right _ h))) (by decide +kernel))
set_option maxRecDepth 20000 in
theorem gL_act_L_label : GoodIn wsL_act (va_wsS RL 107 yL_label wsL_label) := goodIn_app (goodIn_of _ (by decide +kernel)) ggL_act_L_label
set_option maxRecDepth 20000 in
theorem ggL_act_L_borrow : GoodIn wsL_act wsL_borrow := goodIn_ca (goodIn_r _ [222, 121, 23, 223, 224, 225, 9, 226, 52, 53, 175, 176, 177, 129, 130, 65, 66, 67, 68, 69, 70, 71, 72, 73, 74, 75, 76, 77, 78, 79, 80, 81, 82, 83, 84, 85, 86, 87, 88, 89, 90, 91, 92, 93, 94, 248, 249, 250, 251, 254, 255, 256, 257, 258, 259, 260, 261, 262, 263, 264, 265, 266, 267] (by decide +kernel) (by decide +kernel)) (goodIn_sub (fun _ h => List.mem_cons_of_mem _ (List.mem_append_right _ h)) (by decide +kernel))
set_option maxRecDepth 20000 in
theorem gL_act_L_borrow : GoodIn wsL_act (va_wsS RL 109 yL_borrow wsL_borrow) := goodIn_app (goodIn_of _ (by decide +kernel)) ggL_act_L_borrow
set_option maxRecDepth 20000 in
theorem ggL_act_L_painter : GoodIn wsL_act wsL_painter := goodIn_ca (goodIn_ca (goodIn_r _ [229, 121, 21, 23, 24, 230, 231, 232, 9, 233, 52, 53, 175, 176, 177, 129, 130, 31, 32, 33, 34, 35, 65, 66, 67, 68, 69, 70, 71, 72, 73, 74, 75, 76, 77, 78, 79, 80, 81, 82, 83, 84, 85, 86, 87, 88, 89, 90, 91, 92, 93, 94, 248, 249, 250, 251, 254, 255, 256, 257, 258, 259, 260, 261, 262, 263, 264, 265, 266, 267] (by decide +kernel) (by decide +kernel)) (goodIn_sub (fun _ h => List.mem_cons_of_mem _ (List.mem_append_right _ h)) (by decide +kernel))) (goodIn_sub (fun _ h => List.mem_cons_of_mem _ (List.mem_append_left _ (List.mem_append_right _ h))) (by decide +kernel))
set_option maxRecDepth 20000 in
theorem gL_act_L_painter : GoodIn wsL_act (va_wsS RL 111 yL_painter wsL_painter) := goodIn_app (goodIn_of _ (by decide +kernel)) ggL_act_L_painter
set_option maxRecDepth 20000 in
theorem ggL_act_L_mix : GoodIn wsL_act wsL_mix := goodIn_ca (goodIn_ca (goodIn_r _ [236, 121, 21, 23, 24, 237, 238, 239, 9, 240, 52, 53, 126, 127, 128, 129, 130, 31, 32, 33, 34, 35, 65, 66, 67, 68, 69, 70, 71, 72, 73, 74, 75, 76, 77, 78, 79, 80, 81, 82, 83, 84, 85, 86, 87, 88, 89, 90, 91, 92, 93, 94, 241, 242, 109, 243, 244, 245, 246, 247, 248, 249, 250, 251, 254, 255, 256, 257, 258, 259, 260, 261, 262, 263, 264, 265, 266, 267] (by decide +kernel) (by decide +kernel)) (goodIn_sub (fun _ h => List.mem_cons_of_mem _ (List.mem_append_right _ h)) (by decide +kernel))) (goodIn_sub (fun _ h => List.mem_cons_of_mem _ (List.mem_append_left _ (List.mem_append_right _ h))) (by decide +kernel))
set_option maxRecDepth 20000 in
theorem gL_act_L_mix : GoodIn wsL_act (va_wsS RL 114 yL_mix wsL_mix) := goodIn_app (goodIn_of _ (by decide +kernel)) ggL_act_L_mix
theorem dL_act_0 : decode cL_act 0 = .ok (.iconst 0, 1) := by decide +kernel
theorem dL_act_1 : decode cL_act 1 = .ok (.istore_n 3, 1) := by decide +kernel
theorem dL_act_2 : decode cL_act 2 = .ok (.iload_n 1, 1) := by decide +kernel
theorem dL_act_3 : decode cL_act 3 = .ok (.bipush 14, 2) := by decide +kernel
theorem dL_act_5 : decode cL_act 5 = .ok (.invokestatic 84, 3) := by decide +kernel
theorem dL_act_8 : decode cL_act 8 = .ok (.tableswitch 328 0 11 #[64, 64, 183, 183, 214, 225, 225, 243, 253, 274, 291, 309], 64) := by decide +kernel
theorem dL_act_72 : decode cL_act 72 = .ok (.iconst 1, 1) := by decide +kernel
theorem dL_act_73 : decode cL_act 73 = .ok (.iload_n 1, 1) := by decide +kernel
theorem dL_act_74 : decode cL_act 74 = .ok (.iconst 4, 1) := by decide +kernel
theorem dL_act_75 : decode cL_act 75 = .ok (.ishr, 1) := by decide +kernel
theorem dL_act_76 : decode cL_act 76 = .ok (.bipush 8, 2) := by decide +kernel
theorem dL_act_78 : decode cL_act 78 = .ok (.invokestatic 84, 3) := by decide +kernel
theorem dL_act_81 : decode cL_act 81 = .ok (.iadd, 1) := by decide +kernel
theorem dL_act_82 : decode cL_act 82 = .ok (.istore 4, 2) := by decide +kernel
theorem dL_act_84 : decode cL_act 84 = .ok (.aload_n 0, 1) := by decide +kernel
theorem dL_act_85 : decode cL_act 85 = .ok (.invokevirtual 89, 3) := by decide +kernel
theorem dL_act_88 : decode cL_act 88 = .ok (.istore_n 3, 1) := by decide +kernel
theorem dL_act_89 : decode cL_act 89 = .ok (.iconst 0, 1) := by decide +kernel
theorem dL_act_90 : decode cL_act 90 = .ok (.istore 5, 2) := by decide +kernel
theorem dL_act_92 : decode cL_act 92 = .ok (.iload 5, 2) := by decide +kernel
theorem dL_act_94 : decode cL_act 94 = .ok (.iload 4, 2) := by decide +kernel
theorem dL_act_96 : decode cL_act 96 = .ok (.if_icmp .ge 90, 3) := by decide +kernel
theorem dL_act_99 : decode cL_act 99 = .ok (.iload 5, 2) := by decide +kernel
theorem dL_act_101 : decode cL_act 101 = .ok (.ifCond .le 12, 3) := by decide +kernel
theorem dL_act_104 : decode cL_act 104 = .ok (.aload_n 0, 1) := by decide +kernel
theorem dL_act_105 : decode cL_act 105 = .ok (.bipush 59, 2) := by decide +kernel
theorem dL_act_107 : decode cL_act 107 = .ok (.invokestatic 92, 3) := by decide +kernel
theorem dL_act_110 : decode cL_act 110 = .ok (.goto 4, 3) := by decide +kernel
theorem dL_act_113 : decode cL_act 113 = .ok (.iconst 0, 1) := by decide +kernel
theorem dL_act_114 : decode cL_act 114 = .ok (.istore_n 3, 1) := by decide +kernel
theorem dL_act_115 : decode cL_act 115 = .ok (.aload_n 0, 1) := by decide +kernel
theorem dL_act_116 : decode cL_act 116 = .ok (.bipush 48, 2) := by decide +kernel
theorem dL_act_118 : decode cL_act 118 = .ok (.iload_n 1, 1) := by decide +kernel
theorem dL_act_119 : decode cL_act 119 = .ok (.iconst 3, 1) := by decide +kernel
theorem dL_act_120 : decode cL_act 120 = .ok (.iload 5, 2) := by decide +kernel
theorem dL_act_122 : decode cL_act 122 = .ok (.imul, 1) := by decide +kernel
theorem dL_act_123 : decode cL_act 123 = .ok (.ishr, 1) := by decide +kernel
theorem dL_act_124 : decode cL_act 124 = .ok (.bipush 8, 2) := by decide +kernel
theorem dL_act_126 : decode cL_act 126 = .ok (.invokestatic 84, 3) := by decide +kernel
theorem dL_act_129 : decode cL_act 129 = .ok (.iadd, 1) := by decide +kernel
theorem dL_act_130 : decode cL_act 130 = .ok (.invokestatic 92, 3) := by decide +kernel
theorem dL_act_133 : decode cL_act 133 = .ok (.istore_n 3, 1) := by decide +kernel
theorem dL_act_134 : decode cL_act 134 = .ok (.aload_n 0, 1) := by decide +kernel
theorem dL_act_135 : decode cL_act 135 = .ok (.bipush 61, 2) := by decide +kernel
theorem dL_act_137 : decode cL_act 137 = .ok (.invokestatic 92, 3) := by decide +kernel
theorem dL_act_140 : decode cL_act 140 = .ok (.istore_n 3, 1) := by decide +kernel
theorem dL_act_141 : decode cL_act 141 = .ok (.iconst 0, 1) := by decide +kernel
theorem dL_act_142 : decode cL_act 142 = .ok (.istore 6, 2) := by decide +kernel
theorem dL_act_144 : decode cL_act 144 = .ok (.iload 6, 2) := by decide +kernel
theorem dL_act_146 : decode cL_act 146 = .ok (.iconst 3, 1) := by decide +kernel
theorem dL_act_147 : decode cL_act 147 = .ok (.if_icmp .ge 33, 3) := by decide +kernel
theorem dL_act_150 : decode cL_act 150 = .ok (.aload_n 0, 1) := by decide +kernel
theorem dL_act_151 : decode cL_act 151 = .ok (.bipush 48, 2) := by decide +kernel
theorem dL_act_153 : decode cL_act 153 = .ok (.iload_n 2, 1) := by decide +kernel
theorem dL_act_154 : decode cL_act 154 = .ok (.iconst 2, 1) := by decide +kernel
theorem dL_act_155 : decode cL_act 155 = .ok (.iload 5, 2) := by decide +kernel
theorem dL_act_157 : decode cL_act 157 = .ok (.imul, 1) := by decide +kernel
theorem dL_act_158 : decode cL_act 158 = .ok (.iconst 5, 1) := by decide +kernel
theorem dL_act_159 : decode cL_act 159 = .ok (.iload 6, 2) := by decide +kernel
theorem dL_act_161 : decode cL_act 161 = .ok (.imul, 1) := by decide +kernel
theorem dL_act_162 : decode cL_act 162 = .ok (.iadd, 1) := by decide +kernel
theorem dL_act_163 : decode cL_act 163 = .ok (.ishr, 1) := by decide +kernel
theorem dL_act_164 : decode cL_act 164 = .ok (.bipush 10, 2) := by decide +kernel
theorem dL_act_166 : decode cL_act 166 = .ok (.invokestatic 84, 3) := by decide +kernel
theorem dL_act_169 : decode cL_act 169 = .ok (.iadd, 1) := by decide +kernel
theorem dL_act_170 : decode cL_act 170 = .ok (.invokestatic 92, 3) := by decide +kernel
theorem dL_act_173 : decode cL_act 173 = .ok (.istore_n 3, 1) := by decide +kernel
theorem dL_act_174 : decode cL_act 174 = .ok (.iinc 6 1, 3) := by decide +kernel
theorem dL_act_177 : decode cL_act 177 = .ok (.goto (-33), 3) := by decide +kernel
theorem dL_act_180 : decode cL_act 180 = .ok (.iinc 5 1, 3) := by decide +kernel
theorem dL_act_183 : decode cL_act 183 = .ok (.goto (-91), 3) := by decide +kernel
theorem dL_act_186 : decode cL_act 186 = .ok (.aload_n 0, 1) := by decide +kernel
theorem dL_act_187 : decode cL_act 187 = .ok (.invokestatic 95, 3) := by decide +kernel
theorem dL_act_190 : decode cL_act 190 = .ok (.ireturn, 1) := by decide +kernel
theorem dL_act_191 : decode cL_act 191 = .ok (.aload_n 0, 1) := by decide +kernel
theorem dL_act_192 : decode cL_act 192 = .ok (.iload_n 2, 1) := by decide +kernel
theorem dL_act_193 : decode cL_act 193 = .ok (.bipush 8, 2) := by decide +kernel
theorem dL_act_195 : decode cL_act 195 = .ok (.invokestatic 84, 3) := by decide +kernel
theorem dL_act_198 : decode cL_act 198 = .ok (.iload_n 2, 1) := by decide +kernel
theorem dL_act_199 : decode cL_act 199 = .ok (.bipush 8, 2) := by decide +kernel
theorem dL_act_201 : decode cL_act 201 = .ok (.invokestatic 84, 3) := by decide +kernel
theorem dL_act_204 : decode cL_act 204 = .ok (.iconst 1, 1) := by decide +kernel
theorem dL_act_205 : decode cL_act 205 = .ok (.iadd, 1) := by decide +kernel
theorem dL_act_206 : decode cL_act 206 = .ok (.iload_n 2, 1) := by decide +kernel
theorem dL_act_207 : decode cL_act 207 = .ok (.iconst 3, 1) := by decide +kernel
theorem dL_act_208 : decode cL_act 208 = .ok (.ishr, 1) := by decide +kernel
theorem dL_act_209 : decode cL_act 209 = .ok (.bipush 7, 2) := by decide +kernel
theorem dL_act_211 : decode cL_act 211 = .ok (.invokestatic 84, 3) := by decide +kernel
theorem dL_act_214 : decode cL_act 214 = .ok (.iadd, 1) := by decide +kernel
theorem dL_act_215 : decode cL_act 215 = .ok (.bipush 8, 2) := by decide +kernel
theorem dL_act_217 : decode cL_act 217 = .ok (.irem, 1) := by decide +kernel
theorem dL_act_218 : decode cL_act 218 = .ok (.invokestatic 98, 3) := by decide +kernel
theorem dL_act_221 : decode cL_act 221 = .ok (.ireturn, 1) := by decide +kernel
theorem dL_act_222 : decode cL_act 222 = .ok (.aload_n 0, 1) := by decide +kernel
theorem dL_act_223 : decode cL_act 223 = .ok (.iload_n 2, 1) := by decide +kernel
theorem dL_act_224 : decode cL_act 224 = .ok (.bipush 6, 2) := by decide +kernel
theorem dL_act_226 : decode cL_act 226 = .ok (.invokestatic 84, 3) := by decide +kernel
theorem dL_act_229 : decode cL_act 229 = .ok (.invokestatic 101, 3) := by decide +kernel
theorem dL_act_232 : decode cL_act 232 = .ok (.ireturn, 1) := by decide +kernel
theorem dL_act_233 : decode cL_act 233 = .ok (.aload_n 0, 1) := by decide +kernel
theorem dL_act_234 : decode cL_act 234 = .ok (.iload_n 2, 1) := by decide +kernel
theorem dL_act_235 : decode cL_act 235 = .ok (.bipush 6, 2) := by decide +kernel
theorem dL_act_237 : decode cL_act 237 = .ok (.invokestatic 84, 3) := by decide +kernel
theorem dL_act_240 : decode cL_act 240 = .ok (.iload_n 2, 1) := by decide +kernel
theorem dL_act_241 : decode cL_act 241 = .ok (.iconst 3, 1) := by decide +kernel
theorem dL_act_242 : decode cL_act 242 = .ok (.ishr, 1) := by decide +kernel
theorem dL_act_243 : decode cL_act 243 = .ok (.iconst 4, 1) := by decide +kernel
theorem dL_act_244 : decode cL_act 244 = .ok (.invokestatic 84, 3) := by decide +kernel
theorem dL_act_247 : decode cL_act 247 = .ok (.invokestatic 103, 3) := by decide +kernel
theorem dL_act_250 : decode cL_act 250 = .ok (.ireturn, 1) := by decide +kernel
theorem dL_act_251 : decode cL_act 251 = .ok (.aload_n 0, 1) := by decide +kernel
theorem dL_act_252 : decode cL_act 252 = .ok (.iload_n 2, 1) := by decide +kernel
theorem dL_act_253 : decode cL_act 253 = .ok (.iconst 4, 1) := by decide +kernel
theorem dL_act_254 : decode cL_act 254 = .ok (.invokestatic 84, 3) := by decide +kernel
theorem dL_act_257 : decode cL_act 257 = .ok (.invokestatic 105, 3) := by decide +kernel
theorem dL_act_260 : decode cL_act 260 = .ok (.ireturn, 1) := by decide +kernel
theorem dL_act_261 : decode cL_act 261 = .ok (.aload_n 0, 1) := by decide +kernel
theorem dL_act_262 : decode cL_act 262 = .ok (.iload_n 2, 1) := by decide +kernel
theorem dL_act_263 : decode cL_act 263 = .ok (.bipush 8, 2) := by decide +kernel
theorem dL_act_265 : decode cL_act 265 = .ok (.invokestatic 84, 3) := by decide +kernel
theorem dL_act_268 : decode cL_act 268 = .ok (.iload_n 2, 1) := by decide +kernel
theorem dL_act_269 : decode cL_act 269 = .ok (.iconst 3, 1) := by decide +kernel
theorem dL_act_270 : decode cL_act 270 = .ok (.ishr, 1) := by decide +kernel
theorem dL_act_271 : decode cL_act 271 = .ok (.bipush 9, 2) := by decide +kernel
theorem dL_act_273 : decode cL_act 273 = .ok (.invokestatic 84, 3) := by decide +kernel
theorem dL_act_276 : decode cL_act 276 = .ok (.iconst 1, 1) := by decide +kernel
theorem dL_act_277 : decode cL_act 277 = .ok (.isub, 1) := by decide +kernel
theorem dL_act_278 : decode cL_act 278 = .ok (.invokestatic 107, 3) := by decide +kernel
theorem dL_act_281 : decode cL_act 281 = .ok (.ireturn, 1) := by decide +kernel
theorem dL_act_282 : decode cL_act 282 = .ok (.aload_n 0, 1) := by decide +kernel
theorem dL_act_283 : decode cL_act 283 = .ok (.iload_n 2, 1) := by decide +kernel
theorem dL_act_284 : decode cL_act 284 = .ok (.iconst 4, 1) := by decide +kernel
theorem dL_act_285 : decode cL_act 285 = .ok (.invokestatic 84, 3) := by decide +kernel
theorem dL_act_288 : decode cL_act 288 = .ok (.iload_n 2, 1) := by decide +kernel
theorem dL_act_289 : decode cL_act 289 = .ok (.iconst 2, 1) := by decide +kernel
theorem dL_act_290 : decode cL_act 290 = .ok (.ishr, 1) := by decide +kernel
theorem dL_act_291 : decode cL_act 291 = .ok (.iconst 4, 1) := by decide +kernel
theorem dL_act_292 : decode cL_act 292 = .ok (.invokestatic 84, 3) := by decide +kernel
theorem dL_act_295 : decode cL_act 295 = .ok (.invokestatic 109, 3) := by decide +kernel
theorem dL_act_298 : decode cL_act 298 = .ok (.ireturn, 1) := by decide +kernel
theorem dL_act_299 : decode cL_act 299 = .ok (.aload_n 0, 1) := by decide +kernel
theorem dL_act_300 : decode cL_act 300 = .ok (.iload_n 2, 1) := by decide +kernel
theorem dL_act_301 : decode cL_act 301 = .ok (.iconst 4, 1) := by decide +kernel
theorem dL_act_302 : decode cL_act 302 = .ok (.invokestatic 84, 3) := by decide +kernel
theorem dL_act_305 : decode cL_act 305 = .ok (.iconst 0, 1) := by decide +kernel
theorem dL_act_306 : decode cL_act 306 = .ok (.iload_n 2, 1) := by decide +kernel
theorem dL_act_307 : decode cL_act 307 = .ok (.iconst 2, 1) := by decide +kernel
theorem dL_act_308 : decode cL_act 308 = .ok (.ishr, 1) := by decide +kernel
theorem dL_act_309 : decode cL_act 309 = .ok (.iconst 4, 1) := by decide +kernel
theorem dL_act_310 : decode cL_act 310 = .ok (.invokestatic 84, 3) := by decide +kernel
theorem dL_act_313 : decode cL_act 313 = .ok (.invokestatic 111, 3) := by decide +kernel
theorem dL_act_316 : decode cL_act 316 = .ok (.ireturn, 1) := by decide +kernel
theorem dL_act_317 : decode cL_act 317 = .ok (.aload_n 0, 1) := by decide +kernel
theorem dL_act_318 : decode cL_act 318 = .ok (.iload_n 2, 1) := by decide +kernel
theorem dL_act_319 : decode cL_act 319 = .ok (.iconst 4, 1) := by decide +kernel
theorem dL_act_320 : decode cL_act 320 = .ok (.invokestatic 84, 3) := by decide +kernel
theorem dL_act_323 : decode cL_act 323 = .ok (.iconst 1, 1) := by decide +kernel
theorem dL_act_324 : decode cL_act 324 = .ok (.iload_n 2, 1) := by decide +kernel
theorem dL_act_325 : decode cL_act 325 = .ok (.iconst 2, 1) := by decide +kernel
theorem dL_act_326 : decode cL_act 326 = .ok (.ishr, 1) := by decide +kernel
theorem dL_act_327 : decode cL_act 327 = .ok (.bipush 12, 2) := by decide +kernel
theorem dL_act_329 : decode cL_act 329 = .ok (.invokestatic 84, 3) := by decide +kernel
theorem dL_act_332 : decode cL_act 332 = .ok (.invokestatic 111, 3) := by decide +kernel
theorem dL_act_335 : decode cL_act 335 = .ok (.ireturn, 1) := by decide +kernel
theorem dL_act_336 : decode cL_act 336 = .ok (.aload_n 0, 1) := by decide +kernel
theorem dL_act_337 : decode cL_act 337 = .ok (.iload_n 1, 1) := by decide +kernel
theorem dL_act_338 : decode cL_act 338 = .ok (.iconst 4, 1) := by decide +kernel
theorem dL_act_339 : decode cL_act 339 = .ok (.ishr, 1) := by decide +kernel
theorem dL_act_340 : decode cL_act 340 = .ok (.bipush 8, 2) := by decide +kernel
theorem dL_act_342 : decode cL_act 342 = .ok (.invokestatic 84, 3) := by decide +kernel
theorem dL_act_345 : decode cL_act 345 = .ok (.iload_n 2, 1) := by decide +kernel
theorem dL_act_346 : decode cL_act 346 = .ok (.iconst 3, 1) := by decide +kernel
theorem dL_act_347 : decode cL_act 347 = .ok (.invokestatic 84, 3) := by decide +kernel
theorem dL_act_350 : decode cL_act 350 = .ok (.iload_n 2, 1) := by decide +kernel
theorem dL_act_351 : decode cL_act 351 = .ok (.iconst 2, 1) := by decide +kernel
theorem dL_act_352 : decode cL_act 352 = .ok (.ishr, 1) := by decide +kernel
theorem dL_act_353 : decode cL_act 353 = .ok (.bipush 10, 2) := by decide +kernel
theorem dL_act_355 : decode cL_act 355 = .ok (.invokestatic 84, 3) := by decide +kernel
theorem dL_act_358 : decode cL_act 358 = .ok (.invokestatic 114, 3) := by decide +kernel
theorem dL_act_361 : decode cL_act 361 = .ok (.ireturn, 1) := by decide +kernel
theorem dL_far_0 : decode cL_far 0 = .ok (.iconst 0, 1) := by decide +kernel
theorem dL_far_1 : decode cL_far 1 = .ok (.istore_n 2, 1) := by decide +kernel
theorem dL_far_2 : decode cL_far 2 = .ok (.iconst 1, 1) := by decide +kernel
theorem dL_far_3 : decode cL_far 3 = .ok (.istore_n 3, 1) := by decide +kernel
theorem dL_far_4 : decode cL_far 4 = .ok (.iload_n 3, 1) := by decide +kernel
theorem dL_far_5 : decode cL_far 5 = .ok (.sipush 1000, 3) := by decide +kernel
theorem dL_far_8 : decode cL_far 8 = .ok (.if_icmp .ge 42, 3) := by decide +kernel
theorem dL_far_11 : decode cL_far 11 = .ok (.iload_n 0, 1) := by decide +kernel
theorem dL_far_12 : decode cL_far 12 = .ok (.iload_n 3, 1) := by decide +kernel
theorem dL_far_13 : decode cL_far 13 = .ok (.idiv, 1) := by decide +kernel
theorem dL_far_14 : decode cL_far 14 = .ok (.bipush 10, 2) := by decide +kernel
theorem dL_far_16 : decode cL_far 16 = .ok (.irem, 1) := by decide +kernel
theorem dL_far_17 : decode cL_far 17 = .ok (.iload_n 1, 1) := by decide +kernel
theorem dL_far_18 : decode cL_far 18 = .ok (.iload_n 3, 1) := by decide +kernel
theorem dL_far_19 : decode cL_far 19 = .ok (.idiv, 1) := by decide +kernel
theorem dL_far_20 : decode cL_far 20 = .ok (.bipush 10, 2) := by decide +kernel
theorem dL_far_22 : decode cL_far 22 = .ok (.irem, 1) := by decide +kernel
theorem dL_far_23 : decode cL_far 23 = .ok (.isub, 1) := by decide +kernel
theorem dL_far_24 : decode cL_far 24 = .ok (.istore 4, 2) := by decide +kernel
theorem dL_far_26 : decode cL_far 26 = .ok (.iload_n 2, 1) := by decide +kernel
theorem dL_far_27 : decode cL_far 27 = .ok (.iload 4, 2) := by decide +kernel
theorem dL_far_29 : decode cL_far 29 = .ok (.ifCond .ge 9, 3) := by decide +kernel
theorem dL_far_32 : decode cL_far 32 = .ok (.iload 4, 2) := by decide +kernel
theorem dL_far_34 : decode cL_far 34 = .ok (.ineg, 1) := by decide +kernel
theorem dL_far_35 : decode cL_far 35 = .ok (.goto 5, 3) := by decide +kernel
theorem dL_far_38 : decode cL_far 38 = .ok (.iload 4, 2) := by decide +kernel
theorem dL_far_40 : decode cL_far 40 = .ok (.iadd, 1) := by decide +kernel
theorem dL_far_41 : decode cL_far 41 = .ok (.istore_n 2, 1) := by decide +kernel
theorem dL_far_42 : decode cL_far 42 = .ok (.iload_n 3, 1) := by decide +kernel
theorem dL_far_43 : decode cL_far 43 = .ok (.bipush 10, 2) := by decide +kernel
theorem dL_far_45 : decode cL_far 45 = .ok (.imul, 1) := by decide +kernel
theorem dL_far_46 : decode cL_far 46 = .ok (.istore_n 3, 1) := by decide +kernel
theorem dL_far_47 : decode cL_far 47 = .ok (.goto (-43), 3) := by decide +kernel
theorem dL_far_50 : decode cL_far 50 = .ok (.iload_n 2, 1) := by decide +kernel
theorem dL_far_51 : decode cL_far 51 = .ok (.ireturn, 1) := by decide +kernel
set_option maxRecDepth 20000 in
theorem ggL_hangs_L_painterOf : GoodIn wsL_hangs wsL_painterOf := goodIn_ca (goodIn_ca (goodIn_r _ [6, 7, 8, 9, 10, 11, 12, 13, 14, 15, 16, 17, 18, 19, 20, 21, 22, 23, 24, 25, 26, 27, 28, 29, 30, 31, 32, 33, 34, 35, 36, 37, 38, 39, 40, 41, 42, 43, 44, 45, 46, 47, 48, 49, 50, 51, 52, 53, 54, 55, 56, 57, 58, 59, 60, 61, 62, 63, 170, 171, 172, 173, 174, 175, 176, 177, 178, 179, 180, 181, 182, 183] (by decide +kernel) (by decide +kernel)) (goodIn_sub (fun _ h => List.mem_cons_of_mem _ (List.mem_append_left _ (List.mem_append_right _ h))) (by decide +kernel))) (goodIn_sub (fun _ h => List.mem_cons_of_mem _ (List.mem_append_right _ h)) (by decide +kernel))
set_option maxRecDepth 20000 in
theorem gL_hangs_L_painterOf : GoodIn wsL_hangs (va_wsS RL 116 yL_painterOf wsL_painterOf) := goodIn_app (goodIn_of _ (by decide +kernel)) ggL_hangs_L_painterOf
set_option maxRecDepth 20000 in
theorem ggL_hangs_L_apart : GoodIn wsL_hangs wsL_apart := goodIn_ca (goodIn_r _ [66, 7, 9, 67, 68, 69, 14, 70, 18, 19, 20, 21, 22, 23, 71, 72, 73, 74, 53, 54, 27, 55, 56, 29, 30, 31, 32, 33, 34, 35, 36, 37, 38, 39, 40, 41, 42, 43, 44, 45, 46, 170, 171, 172, 173, 174, 175, 176, 177, 178, 179, 180, 181, 182, 183] (by decide +kernel) (by decide +kernel)) (goodIn_sub (fun _ h => List.mem_cons_of_mem _ (List.mem_append_right _ h)) (by decide +kernel))
set_option maxRecDepth 20000 in
theorem gL_hangs_L_apart : GoodIn wsL_hangs (va_wsS RL 118 yL_apart wsL_apart) := goodIn_app (goodIn_of _ (by decide +kernel)) ggL_hangs_L_apart
set_option maxRecDepth 20000 in
theorem ggL_hangs_L_seen : GoodIn wsL_hangs wsL_seen := goodIn_ca (goodIn_r _ [77, 7, 9, 78, 79, 80, 14, 81, 18, 19, 20, 21, 22, 23, 71, 72, 73, 82, 45, 38, 46, 170, 171, 172, 173, 174, 175, 176, 177, 178, 179, 180, 181, 182, 183] (by decide +kernel) (by decide +kernel)) (goodIn_sub (fun _ h => List.mem_cons_of_mem _ (List.mem_append_right _ h)) (by decide +kernel))
set_option maxRecDepth 20000 in
theorem gL_hangs_L_seen : GoodIn wsL_hangs (va_wsS RL 120 yL_seen wsL_seen) := goodIn_app (goodIn_of _ (by decide +kernel)) ggL_hangs_L_seen
set_option maxRecDepth 20000 in
theorem ggL_hangs_L_far : GoodIn wsL_hangs wsL_far := goodIn_r _ [85] (by decide +kernel) (by decide +kernel)
set_option maxRecDepth 20000 in
theorem gL_hangs_L_far : GoodIn wsL_hangs (va_wsS RL 122 yL_far wsL_far) := goodIn_app (goodIn_of _ (by decide +kernel)) ggL_hangs_L_far
set_option maxRecDepth 20000 in
theorem ggL_hangs_L_potOf : GoodIn wsL_hangs wsL_potOf := goodIn_ca (goodIn_ca (goodIn_r _ [88, 7, 8, 9, 10, 89, 90, 91, 14, 92, 18, 71, 72, 73, 22, 23, 93, 94, 95, 16, 17, 96, 97, 38, 98, 99, 100, 101, 27, 102, 103, 104, 105, 106, 56, 29, 30, 31, 32, 33, 34, 35, 36, 37, 39, 40, 41, 42, 43, 44, 45, 46, 170, 171, 172, 173, 174, 175, 176, 177, 178, 179, 180, 181, 182, 183] (by decide +kernel) (by decide +kernel)) (goodIn_sub (fun _ h => List.mem_cons_of_mem _ (List.mem_append_right _ h)) (by decide +kernel))) (goodIn_sub (fun _ h => List.mem_cons_of_mem _ (List.mem_append_left _ (List.mem_append_right _ h))) (by decide +kernel))
set_option maxRecDepth 20000 in
theorem gL_hangs_L_potOf : GoodIn wsL_hangs (va_wsS RL 125 yL_potOf wsL_potOf) := goodIn_app (goodIn_of _ (by decide +kernel)) ggL_hangs_L_potOf
set_option maxRecDepth 20000 in
theorem ggL_hangs_L_count : GoodIn wsL_hangs wsL_count := goodIn_ca (goodIn_r _ [109, 8, 9, 110, 111, 112, 14, 113, 16, 17, 18, 114, 115, 116, 117, 27, 118, 51, 119, 120, 121, 122, 123, 124, 125, 126, 127, 128, 129, 130, 131, 132, 133, 103, 104, 105, 106, 56, 29, 30, 31, 32, 33, 34, 35, 36, 37, 38, 39, 40, 41, 42, 43, 44, 45, 46, 134, 135, 136, 137, 138, 48, 49, 50, 52, 53, 54, 55, 170, 171, 172, 173, 174, 175, 176, 177, 178, 179, 180, 181, 182, 183, 184, 185, 186, 187] (by decide +kernel) (by decide +kernel)) (goodIn_sub (fun _ h => List.mem_cons_of_mem _ (List.mem_append_left _ (List.mem_append_right _ h))) (by decide +kernel))
set_option maxRecDepth 20000 in
theorem gL_hangs_L_count : GoodIn wsL_hangs (va_wsS RL 127 yL_count wsL_count) := goodIn_app (goodIn_of _ (by decide +kernel)) ggL_hangs_L_count
set_option maxRecDepth 20000 in
theorem ggL_hangs_L_chartOf : GoodIn wsL_hangs wsL_chartOf := goodIn_ca (goodIn_ca (goodIn_r _ [141, 7, 8, 9, 10, 142, 143, 144, 14, 145, 16, 17, 18, 146, 147, 148, 149, 22, 23, 150, 151, 152, 27, 153, 62, 63, 103, 104, 105, 106, 56, 29, 30, 31, 32, 33, 34, 35, 36, 37, 38, 39, 40, 41, 42, 43, 44, 45, 46, 170, 171, 172, 173, 174, 175, 176, 177, 178, 179, 180, 181, 182, 183] (by decide +kernel) (by decide +kernel)) (goodIn_sub (fun _ h => List.mem_cons_of_mem _ (List.mem_append_left _ (List.mem_append_right _ h))) (by decide +kernel))) (goodIn_sub (fun _ h => List.mem_cons_of_mem _ (List.mem_append_right _ h)) (by decide +kernel))
set_option maxRecDepth 20000 in
theorem gL_hangs_L_chartOf : GoodIn wsL_hangs (va_wsS RL 129 yL_chartOf wsL_chartOf) := goodIn_app (goodIn_of _ (by decide +kernel)) ggL_hangs_L_chartOf
set_option maxRecDepth 20000 in
theorem ggL_hangs_L_ifBorrowed : GoodIn wsL_hangs wsL_ifBorrowed := goodIn_ca (goodIn_r _ [156, 7, 9, 157, 158, 159, 14, 160, 18, 19, 20, 21, 22, 23, 24, 25, 26, 27, 28, 29, 30, 31, 32, 33, 34, 35, 36, 37, 38, 39, 40, 41, 42, 43, 44, 45, 46, 170, 171, 172, 173, 174, 175, 176, 177, 178, 179, 180, 181, 182, 183] (by decide +kernel) (by decide +kernel)) (goodIn_sub (fun _ h => List.mem_cons_of_mem _ (List.mem_append_right _ h)) (by decide +kernel))
set_option maxRecDepth 20000 in
theorem gL_hangs_L_ifBorrowed : GoodIn wsL_hangs (va_wsS RL 131 yL_ifBorrowed wsL_ifBorrowed) := goodIn_app (goodIn_of _ (by decide +kernel)) ggL_hangs_L_ifBorrowed
set_option maxRecDepth 20000 in
theorem ggL_hangs_X5_bestPainter : GoodIn wsL_hangs wsX5_bestPainter := goodIn_r _ [164, 18, 24, 25, 26, 27, 28, 29, 30, 31, 32, 33, 34, 35, 36, 37, 38, 39, 40, 41, 42, 43, 44, 45, 46, 170, 171, 172, 173, 174, 175, 176, 177, 178, 179, 180, 181, 182, 183] (by decide +kernel) (by decide +kernel)
set_option maxRecDepth 20000 in
theorem gL_hangs_X5_bestPainter : GoodIn wsL_hangs (wsV RL 133 RX5 yX5_bestPainter wsX5_bestPainter) := goodIn_app (goodIn_of _ (by decide +kernel)) ggL_hangs_X5_bestPainter
set_option maxRecDepth 20000 in
theorem ggL_hangs_X5_apartShare : GoodIn wsL_hangs wsX5_apartShare := goodIn_r _ [168, 18, 169, 24, 25, 26, 27, 28, 29, 30, 31, 32, 33, 34, 35, 36, 37, 38, 39, 40, 41, 42, 43, 44, 45, 46, 170, 171, 172, 173, 174, 175, 176, 177, 178, 179, 180, 181, 182, 183] (by decide +kernel) (by decide +kernel)
set_option maxRecDepth 20000 in
theorem gL_hangs_X5_apartShare : GoodIn wsL_hangs (wsV RL 136 RX5 yX5_apartShare wsX5_apartShare) := goodIn_app (goodIn_of _ (by decide +kernel)) ggL_hangs_X5_apartShare
theorem dL_hangs_0 : decode cL_hangs 0 = .ok (.iconst 0, 1) := by decide +kernel
theorem dL_hangs_1 : decode cL_hangs 1 = .ok (.istore_n 1, 1) := by decide +kernel
theorem dL_hangs_2 : decode cL_hangs 2 = .ok (.iconst 0, 1) := by decide +kernel
theorem dL_hangs_3 : decode cL_hangs 3 = .ok (.istore_n 2, 1) := by decide +kernel
theorem dL_hangs_4 : decode cL_hangs 4 = .ok (.iconst (-1), 1) := by decide +kernel
theorem dL_hangs_5 : decode cL_hangs 5 = .ok (.istore_n 3, 1) := by decide +kernel
theorem dL_hangs_6 : decode cL_hangs 6 = .ok (.bipush 64, 2) := by decide +kernel
theorem dL_hangs_8 : decode cL_hangs 8 = .ok (.newarray .int, 2) := by decide +kernel
theorem dL_hangs_10 : decode cL_hangs 10 = .ok (.astore 4, 2) := by decide +kernel
theorem dL_hangs_12 : decode cL_hangs 12 = .ok (.iconst 0, 1) := by decide +kernel
theorem dL_hangs_13 : decode cL_hangs 13 = .ok (.istore 5, 2) := by decide +kernel
theorem dL_hangs_15 : decode cL_hangs 15 = .ok (.iload 5, 2) := by decide +kernel
theorem dL_hangs_17 : decode cL_hangs 17 = .ok (.iconst 4, 1) := by decide +kernel
theorem dL_hangs_18 : decode cL_hangs 18 = .ok (.if_icmp .ge 531, 3) := by decide +kernel
theorem dL_hangs_21 : decode cL_hangs 21 = .ok (.iconst 0, 1) := by decide +kernel
theorem dL_hangs_22 : decode cL_hangs 22 = .ok (.istore 6, 2) := by decide +kernel
theorem dL_hangs_24 : decode cL_hangs 24 = .ok (.iconst 0, 1) := by decide +kernel
theorem dL_hangs_25 : decode cL_hangs 25 = .ok (.istore 7, 2) := by decide +kernel
theorem dL_hangs_27 : decode cL_hangs 27 = .ok (.aload_n 0, 1) := by decide +kernel
theorem dL_hangs_28 : decode cL_hangs 28 = .ok (.iload 5, 2) := by decide +kernel
theorem dL_hangs_30 : decode cL_hangs 30 = .ok (.iconst 2, 1) := by decide +kernel
theorem dL_hangs_31 : decode cL_hangs 31 = .ok (.invokestatic 116, 3) := by decide +kernel
theorem dL_hangs_34 : decode cL_hangs 34 = .ok (.istore 8, 2) := by decide +kernel
theorem dL_hangs_36 : decode cL_hangs 36 = .ok (.iconst 0, 1) := by decide +kernel
theorem dL_hangs_37 : decode cL_hangs 37 = .ok (.istore 9, 2) := by decide +kernel
theorem dL_hangs_39 : decode cL_hangs 39 = .ok (.iload 9, 2) := by decide +kernel
theorem dL_hangs_41 : decode cL_hangs 41 = .ok (.bipush 8, 2) := by decide +kernel
theorem dL_hangs_43 : decode cL_hangs 43 = .ok (.if_icmp .ge 270, 3) := by decide +kernel
theorem dL_hangs_46 : decode cL_hangs 46 = .ok (.iconst 0, 1) := by decide +kernel
theorem dL_hangs_47 : decode cL_hangs 47 = .ok (.istore 10, 2) := by decide +kernel
theorem dL_hangs_49 : decode cL_hangs 49 = .ok (.iload 10, 2) := by decide +kernel
theorem dL_hangs_51 : decode cL_hangs 51 = .ok (.bipush 8, 2) := by decide +kernel
theorem dL_hangs_53 : decode cL_hangs 53 = .ok (.if_icmp .ge 254, 3) := by decide +kernel
theorem dL_hangs_56 : decode cL_hangs 56 = .ok (.aload_n 0, 1) := by decide +kernel
theorem dL_hangs_57 : decode cL_hangs 57 = .ok (.iload 5, 2) := by decide +kernel
theorem dL_hangs_59 : decode cL_hangs 59 = .ok (.iload 9, 2) := by decide +kernel
theorem dL_hangs_61 : decode cL_hangs 61 = .ok (.iload 10, 2) := by decide +kernel
theorem dL_hangs_63 : decode cL_hangs 63 = .ok (.invokestatic 118, 3) := by decide +kernel
theorem dL_hangs_66 : decode cL_hangs 66 = .ok (.iconst 1, 1) := by decide +kernel
theorem dL_hangs_67 : decode cL_hangs 67 = .ok (.if_icmp .ne 7, 3) := by decide +kernel
theorem dL_hangs_70 : decode cL_hangs 70 = .ok (.iconst 1, 1) := by decide +kernel
theorem dL_hangs_71 : decode cL_hangs 71 = .ok (.goto 4, 3) := by decide +kernel
theorem dL_hangs_74 : decode cL_hangs 74 = .ok (.iconst 0, 1) := by decide +kernel
theorem dL_hangs_75 : decode cL_hangs 75 = .ok (.istore 11, 2) := by decide +kernel
theorem dL_hangs_77 : decode cL_hangs 77 = .ok (.aload_n 0, 1) := by decide +kernel
theorem dL_hangs_78 : decode cL_hangs 78 = .ok (.iload 5, 2) := by decide +kernel
theorem dL_hangs_80 : decode cL_hangs 80 = .ok (.iload 9, 2) := by decide +kernel
theorem dL_hangs_82 : decode cL_hangs 82 = .ok (.invokestatic 120, 3) := by decide +kernel
theorem dL_hangs_85 : decode cL_hangs 85 = .ok (.aload_n 0, 1) := by decide +kernel
theorem dL_hangs_86 : decode cL_hangs 86 = .ok (.iload 5, 2) := by decide +kernel
theorem dL_hangs_88 : decode cL_hangs 88 = .ok (.iload 10, 2) := by decide +kernel
theorem dL_hangs_90 : decode cL_hangs 90 = .ok (.invokestatic 120, 3) := by decide +kernel
theorem dL_hangs_93 : decode cL_hangs 93 = .ok (.invokestatic 122, 3) := by decide +kernel
theorem dL_hangs_96 : decode cL_hangs 96 = .ok (.aload_n 0, 1) := by decide +kernel
theorem dL_hangs_97 : decode cL_hangs 97 = .ok (.iload 5, 2) := by decide +kernel
theorem dL_hangs_99 : decode cL_hangs 99 = .ok (.iconst 1, 1) := by decide +kernel
theorem dL_hangs_100 : decode cL_hangs 100 = .ok (.invokestatic 116, 3) := by decide +kernel
theorem dL_hangs_103 : decode cL_hangs 103 = .ok (.if_icmp .le 7, 3) := by decide +kernel
theorem dL_hangs_106 : decode cL_hangs 106 = .ok (.iconst 1, 1) := by decide +kernel
theorem dL_hangs_107 : decode cL_hangs 107 = .ok (.goto 4, 3) := by decide +kernel
theorem dL_hangs_110 : decode cL_hangs 110 = .ok (.iconst 0, 1) := by decide +kernel
theorem dL_hangs_111 : decode cL_hangs 111 = .ok (.istore 12, 2) := by decide +kernel
theorem dL_hangs_113 : decode cL_hangs 113 = .ok (.aload 4, 2) := by decide +kernel
theorem dL_hangs_115 : decode cL_hangs 115 = .ok (.bipush 8, 2) := by decide +kernel
theorem dL_hangs_117 : decode cL_hangs 117 = .ok (.iload 9, 2) := by decide +kernel
theorem dL_hangs_119 : decode cL_hangs 119 = .ok (.imul, 1) := by decide +kernel
theorem dL_hangs_120 : decode cL_hangs 120 = .ok (.iload 10, 2) := by decide +kernel
theorem dL_hangs_122 : decode cL_hangs 122 = .ok (.iadd, 1) := by decide +kernel
theorem dL_hangs_123 : decode cL_hangs 123 = .ok (.dup2, 1) := by decide +kernel
theorem dL_hangs_124 : decode cL_hangs 124 = .ok (.iaload, 1) := by decide +kernel
theorem dL_hangs_125 : decode cL_hangs 125 = .ok (.iload 11, 2) := by decide +kernel
theorem dL_hangs_127 : decode cL_hangs 127 = .ok (.ifCond .eq 7, 3) := by decide +kernel
theorem dL_hangs_130 : decode cL_hangs 130 = .ok (.iconst 1, 1) := by decide +kernel
theorem dL_hangs_131 : decode cL_hangs 131 = .ok (.goto 4, 3) := by decide +kernel
theorem dL_hangs_134 : decode cL_hangs 134 = .ok (.iconst 0, 1) := by decide +kernel
theorem dL_hangs_135 : decode cL_hangs 135 = .ok (.iadd, 1) := by decide +kernel
theorem dL_hangs_136 : decode cL_hangs 136 = .ok (.iastore, 1) := by decide +kernel
theorem dL_hangs_137 : decode cL_hangs 137 = .ok (.iload 6, 2) := by decide +kernel
theorem dL_hangs_139 : decode cL_hangs 139 = .ok (.iload 11, 2) := by decide +kernel
theorem dL_hangs_141 : decode cL_hangs 141 = .ok (.ifCond .eq 7, 3) := by decide +kernel
theorem dL_hangs_144 : decode cL_hangs 144 = .ok (.iconst 1, 1) := by decide +kernel
theorem dL_hangs_145 : decode cL_hangs 145 = .ok (.goto 4, 3) := by decide +kernel
theorem dL_hangs_148 : decode cL_hangs 148 = .ok (.iconst 0, 1) := by decide +kernel
theorem dL_hangs_149 : decode cL_hangs 149 = .ok (.iadd, 1) := by decide +kernel
theorem dL_hangs_150 : decode cL_hangs 150 = .ok (.istore 6, 2) := by decide +kernel
theorem dL_hangs_152 : decode cL_hangs 152 = .ok (.iload 7, 2) := by decide +kernel
theorem dL_hangs_154 : decode cL_hangs 154 = .ok (.iload 11, 2) := by decide +kernel
theorem dL_hangs_156 : decode cL_hangs 156 = .ok (.ifCond .eq 34, 3) := by decide +kernel
theorem dL_hangs_159 : decode cL_hangs 159 = .ok (.aload_n 0, 1) := by decide +kernel
theorem dL_hangs_160 : decode cL_hangs 160 = .ok (.iload 9, 2) := by decide +kernel
theorem dL_hangs_162 : decode cL_hangs 162 = .ok (.iconst 3, 1) := by decide +kernel
theorem dL_hangs_163 : decode cL_hangs 163 = .ok (.invokestatic 125, 3) := by decide +kernel
theorem dL_hangs_166 : decode cL_hangs 166 = .ok (.ifCond .lt 24, 3) := by decide +kernel
theorem dL_hangs_169 : decode cL_hangs 169 = .ok (.aload_n 0, 1) := by decide +kernel
theorem dL_hangs_170 : decode cL_hangs 170 = .ok (.iload 9, 2) := by decide +kernel
theorem dL_hangs_172 : decode cL_hangs 172 = .ok (.iconst 3, 1) := by decide +kernel
theorem dL_hangs_173 : decode cL_hangs 173 = .ok (.invokestatic 125, 3) := by decide +kernel
theorem dL_hangs_176 : decode cL_hangs 176 = .ok (.aload_n 0, 1) := by decide +kernel
theorem dL_hangs_177 : decode cL_hangs 177 = .ok (.iload 10, 2) := by decide +kernel
theorem dL_hangs_179 : decode cL_hangs 179 = .ok (.iconst 3, 1) := by decide +kernel
theorem dL_hangs_180 : decode cL_hangs 180 = .ok (.invokestatic 125, 3) := by decide +kernel
theorem dL_hangs_183 : decode cL_hangs 183 = .ok (.if_icmp .ne 7, 3) := by decide +kernel
theorem dL_hangs_186 : decode cL_hangs 186 = .ok (.iconst 1, 1) := by decide +kernel
theorem dL_hangs_187 : decode cL_hangs 187 = .ok (.goto 4, 3) := by decide +kernel
theorem dL_hangs_190 : decode cL_hangs 190 = .ok (.iconst 0, 1) := by decide +kernel
theorem dL_hangs_191 : decode cL_hangs 191 = .ok (.iadd, 1) := by decide +kernel
theorem dL_hangs_192 : decode cL_hangs 192 = .ok (.istore 7, 2) := by decide +kernel
theorem dL_hangs_194 : decode cL_hangs 194 = .ok (.iload 8, 2) := by decide +kernel
theorem dL_hangs_196 : decode cL_hangs 196 = .ok (.ifCond .lt 36, 3) := by decide +kernel
theorem dL_hangs_199 : decode cL_hangs 199 = .ok (.aload_n 0, 1) := by decide +kernel
theorem dL_hangs_200 : decode cL_hangs 200 = .ok (.iload 8, 2) := by decide +kernel
theorem dL_hangs_202 : decode cL_hangs 202 = .ok (.iload 9, 2) := by decide +kernel
theorem dL_hangs_204 : decode cL_hangs 204 = .ok (.invokestatic 120, 3) := by decide +kernel
theorem dL_hangs_207 : decode cL_hangs 207 = .ok (.aload_n 0, 1) := by decide +kernel
theorem dL_hangs_208 : decode cL_hangs 208 = .ok (.iload 8, 2) := by decide +kernel
theorem dL_hangs_210 : decode cL_hangs 210 = .ok (.iload 10, 2) := by decide +kernel
theorem dL_hangs_212 : decode cL_hangs 212 = .ok (.invokestatic 120, 3) := by decide +kernel
theorem dL_hangs_215 : decode cL_hangs 215 = .ok (.invokestatic 122, 3) := by decide +kernel
theorem dL_hangs_218 : decode cL_hangs 218 = .ok (.aload_n 0, 1) := by decide +kernel
theorem dL_hangs_219 : decode cL_hangs 219 = .ok (.iload 5, 2) := by decide +kernel
theorem dL_hangs_221 : decode cL_hangs 221 = .ok (.iconst 1, 1) := by decide +kernel
theorem dL_hangs_222 : decode cL_hangs 222 = .ok (.invokestatic 116, 3) := by decide +kernel
theorem dL_hangs_225 : decode cL_hangs 225 = .ok (.if_icmp .le 7, 3) := by decide +kernel
theorem dL_hangs_228 : decode cL_hangs 228 = .ok (.iconst 1, 1) := by decide +kernel
theorem dL_hangs_229 : decode cL_hangs 229 = .ok (.goto 4, 3) := by decide +kernel
theorem dL_hangs_232 : decode cL_hangs 232 = .ok (.iconst 0, 1) := by decide +kernel
theorem dL_hangs_233 : decode cL_hangs 233 = .ok (.istore 13, 2) := by decide +kernel
theorem dL_hangs_235 : decode cL_hangs 235 = .ok (.iload 11, 2) := by decide +kernel
theorem dL_hangs_237 : decode cL_hangs 237 = .ok (.iload 12, 2) := by decide +kernel
theorem dL_hangs_239 : decode cL_hangs 239 = .ok (.ifCond .ne 8, 3) := by decide +kernel
theorem dL_hangs_242 : decode cL_hangs 242 = .ok (.iload 13, 2) := by decide +kernel
theorem dL_hangs_244 : decode cL_hangs 244 = .ok (.ifCond .eq 7, 3) := by decide +kernel
theorem dL_hangs_247 : decode cL_hangs 247 = .ok (.iconst 1, 1) := by decide +kernel
theorem dL_hangs_248 : decode cL_hangs 248 = .ok (.goto 4, 3) := by decide +kernel
theorem dL_hangs_251 : decode cL_hangs 251 = .ok (.iconst 0, 1) := by decide +kernel
theorem dL_hangs_252 : decode cL_hangs 252 = .ok (.if_icmp .ne 47, 3) := by decide +kernel
theorem dL_hangs_255 : decode cL_hangs 255 = .ok (.iload 11, 2) := by decide +kernel
theorem dL_hangs_257 : decode cL_hangs 257 = .ok (.aload_n 0, 1) := by decide +kernel
theorem dL_hangs_258 : decode cL_hangs 258 = .ok (.iload 5, 2) := by decide +kernel
theorem dL_hangs_260 : decode cL_hangs 260 = .ok (.iload 10, 2) := by decide +kernel
theorem dL_hangs_262 : decode cL_hangs 262 = .ok (.iload 9, 2) := by decide +kernel
theorem dL_hangs_264 : decode cL_hangs 264 = .ok (.invokestatic 118, 3) := by decide +kernel
theorem dL_hangs_267 : decode cL_hangs 267 = .ok (.iconst 1, 1) := by decide +kernel
theorem dL_hangs_268 : decode cL_hangs 268 = .ok (.if_icmp .ne 7, 3) := by decide +kernel
theorem dL_hangs_271 : decode cL_hangs 271 = .ok (.iconst 1, 1) := by decide +kernel
theorem dL_hangs_272 : decode cL_hangs 272 = .ok (.goto 4, 3) := by decide +kernel
theorem dL_hangs_275 : decode cL_hangs 275 = .ok (.iconst 0, 1) := by decide +kernel
theorem dL_hangs_276 : decode cL_hangs 276 = .ok (.if_icmp .ne 23, 3) := by decide +kernel
theorem dL_hangs_279 : decode cL_hangs 279 = .ok (.iload 11, 2) := by decide +kernel
theorem dL_hangs_281 : decode cL_hangs 281 = .ok (.ifCond .eq 20, 3) := by decide +kernel
theorem dL_hangs_284 : decode cL_hangs 284 = .ok (.aload_n 0, 1) := by decide +kernel
theorem dL_hangs_285 : decode cL_hangs 285 = .ok (.iload 9, 2) := by decide +kernel
theorem dL_hangs_287 : decode cL_hangs 287 = .ok (.iconst 4, 1) := by decide +kernel
theorem dL_hangs_288 : decode cL_hangs 288 = .ok (.invokestatic 125, 3) := by decide +kernel
theorem dL_hangs_291 : decode cL_hangs 291 = .ok (.iload 5, 2) := by decide +kernel
theorem dL_hangs_293 : decode cL_hangs 293 = .ok (.ishr, 1) := by decide +kernel
theorem dL_hangs_294 : decode cL_hangs 294 = .ok (.iconst 1, 1) := by decide +kernel
theorem dL_hangs_295 : decode cL_hangs 295 = .ok (.iand, 1) := by decide +kernel
theorem dL_hangs_296 : decode cL_hangs 296 = .ok (.ifCond .ne 5, 3) := by decide +kernel
theorem dL_hangs_299 : decode cL_hangs 299 = .ok (.iconst 0, 1) := by decide +kernel
theorem dL_hangs_300 : decode cL_hangs 300 = .ok (.ireturn, 1) := by decide +kernel
theorem dL_hangs_301 : decode cL_hangs 301 = .ok (.iinc 10 1, 3) := by decide +kernel
theorem dL_hangs_304 : decode cL_hangs 304 = .ok (.goto (-255), 3) := by decide +kernel
theorem dL_hangs_307 : decode cL_hangs 307 = .ok (.iinc 9 1, 3) := by decide +kernel
theorem dL_hangs_310 : decode cL_hangs 310 = .ok (.goto (-271), 3) := by decide +kernel
theorem dL_hangs_313 : decode cL_hangs 313 = .ok (.iconst 0, 1) := by decide +kernel
theorem dL_hangs_314 : decode cL_hangs 314 = .ok (.istore 9, 2) := by decide +kernel
theorem dL_hangs_316 : decode cL_hangs 316 = .ok (.iconst 0, 1) := by decide +kernel
theorem dL_hangs_317 : decode cL_hangs 317 = .ok (.istore 10, 2) := by decide +kernel
theorem dL_hangs_319 : decode cL_hangs 319 = .ok (.iload 10, 2) := by decide +kernel
theorem dL_hangs_321 : decode cL_hangs 321 = .ok (.aload_n 0, 1) := by decide +kernel
theorem dL_hangs_322 : decode cL_hangs 322 = .ok (.iconst 2, 1) := by decide +kernel
theorem dL_hangs_323 : decode cL_hangs 323 = .ok (.invokestatic 127, 3) := by decide +kernel
theorem dL_hangs_326 : decode cL_hangs 326 = .ok (.if_icmp .ge 83, 3) := by decide +kernel
theorem dL_hangs_329 : decode cL_hangs 329 = .ok (.aload_n 0, 1) := by decide +kernel
theorem dL_hangs_330 : decode cL_hangs 330 = .ok (.iload 5, 2) := by decide +kernel
theorem dL_hangs_332 : decode cL_hangs 332 = .ok (.aload_n 0, 1) := by decide +kernel
theorem dL_hangs_333 : decode cL_hangs 333 = .ok (.iload 10, 2) := by decide +kernel
theorem dL_hangs_335 : decode cL_hangs 335 = .ok (.iconst 0, 1) := by decide +kernel
theorem dL_hangs_336 : decode cL_hangs 336 = .ok (.invokestatic 129, 3) := by decide +kernel
theorem dL_hangs_339 : decode cL_hangs 339 = .ok (.aload_n 0, 1) := by decide +kernel
theorem dL_hangs_340 : decode cL_hangs 340 = .ok (.iload 10, 2) := by decide +kernel
theorem dL_hangs_342 : decode cL_hangs 342 = .ok (.iconst 1, 1) := by decide +kernel
theorem dL_hangs_343 : decode cL_hangs 343 = .ok (.invokestatic 129, 3) := by decide +kernel
theorem dL_hangs_346 : decode cL_hangs 346 = .ok (.invokestatic 118, 3) := by decide +kernel
theorem dL_hangs_349 : decode cL_hangs 349 = .ok (.iconst 1, 1) := by decide +kernel
theorem dL_hangs_350 : decode cL_hangs 350 = .ok (.if_icmp .ne 7, 3) := by decide +kernel
theorem dL_hangs_353 : decode cL_hangs 353 = .ok (.iconst 1, 1) := by decide +kernel
theorem dL_hangs_354 : decode cL_hangs 354 = .ok (.goto 4, 3) := by decide +kernel
theorem dL_hangs_357 : decode cL_hangs 357 = .ok (.iconst 0, 1) := by decide +kernel
theorem dL_hangs_358 : decode cL_hangs 358 = .ok (.istore 11, 2) := by decide +kernel
theorem dL_hangs_360 : decode cL_hangs 360 = .ok (.iload 9, 2) := by decide +kernel
theorem dL_hangs_362 : decode cL_hangs 362 = .ok (.iload 11, 2) := by decide +kernel
theorem dL_hangs_364 : decode cL_hangs 364 = .ok (.ifCond .eq 7, 3) := by decide +kernel
end
section
theorem dL_hangs_367 : decode cL_hangs 367 = .ok (.iconst 1, 1) := by decide +kernel
theorem dL_hangs_368 : decode cL_hangs 368 = .ok (.goto 4, 3) := by decide +kernel
theorem dL_hangs_371 : decode cL_hangs 371 = .ok (.iconst 0, 1) := by decide +kernel
theorem dL_hangs_372 : decode cL_hangs 372 = .ok (.iadd, 1) := by decide +kernel
theorem dL_hangs_373 : decode cL_hangs 373 = .ok (.istore 9, 2) := by decide +kernel
theorem dL_hangs_375 : decode cL_hangs 375 = .ok (.iload 11, 2) := by decide +kernel
theorem dL_hangs_377 : decode cL_hangs 377 = .ok (.aload_n 0, 1) := by decide +kernel
theorem dL_hangs_378 : decode cL_hangs 378 = .ok (.iload 10, 2) := by decide +kernel
theorem dL_hangs_380 : decode cL_hangs 380 = .ok (.iconst 2, 1) := by decide +kernel
theorem dL_hangs_381 : decode cL_hangs 381 = .ok (.invokestatic 129, 3) := by decide +kernel
theorem dL_hangs_384 : decode cL_hangs 384 = .ok (.iload 5, 2) := by decide +kernel
theorem dL_hangs_386 : decode cL_hangs 386 = .ok (.ishr, 1) := by decide +kernel
theorem dL_hangs_387 : decode cL_hangs 387 = .ok (.iconst 1, 1) := by decide +kernel
theorem dL_hangs_388 : decode cL_hangs 388 = .ok (.iand, 1) := by decide +kernel
theorem dL_hangs_389 : decode cL_hangs 389 = .ok (.iconst 1, 1) := by decide +kernel
theorem dL_hangs_390 : decode cL_hangs 390 = .ok (.if_icmp .ne 7, 3) := by decide +kernel
theorem dL_hangs_393 : decode cL_hangs 393 = .ok (.iconst 1, 1) := by decide +kernel
theorem dL_hangs_394 : decode cL_hangs 394 = .ok (.goto 4, 3) := by decide +kernel
theorem dL_hangs_397 : decode cL_hangs 397 = .ok (.iconst 0, 1) := by decide +kernel
theorem dL_hangs_398 : decode cL_hangs 398 = .ok (.if_icmp .eq 5, 3) := by decide +kernel
theorem dL_hangs_401 : decode cL_hangs 401 = .ok (.iconst 0, 1) := by decide +kernel
theorem dL_hangs_402 : decode cL_hangs 402 = .ok (.ireturn, 1) := by decide +kernel
theorem dL_hangs_403 : decode cL_hangs 403 = .ok (.iinc 10 1, 3) := by decide +kernel
theorem dL_hangs_406 : decode cL_hangs 406 = .ok (.goto (-87), 3) := by decide +kernel
theorem dL_hangs_409 : decode cL_hangs 409 = .ok (.iload_n 1, 1) := by decide +kernel
theorem dL_hangs_410 : decode cL_hangs 410 = .ok (.iload 7, 2) := by decide +kernel
theorem dL_hangs_412 : decode cL_hangs 412 = .ok (.ifCond .ne 7, 3) := by decide +kernel
theorem dL_hangs_415 : decode cL_hangs 415 = .ok (.iconst 1, 1) := by decide +kernel
theorem dL_hangs_416 : decode cL_hangs 416 = .ok (.goto 4, 3) := by decide +kernel
theorem dL_hangs_419 : decode cL_hangs 419 = .ok (.iconst 0, 1) := by decide +kernel
theorem dL_hangs_420 : decode cL_hangs 420 = .ok (.iadd, 1) := by decide +kernel
theorem dL_hangs_421 : decode cL_hangs 421 = .ok (.istore_n 1, 1) := by decide +kernel
theorem dL_hangs_422 : decode cL_hangs 422 = .ok (.iload_n 2, 1) := by decide +kernel
theorem dL_hangs_423 : decode cL_hangs 423 = .ok (.iload 6, 2) := by decide +kernel
theorem dL_hangs_425 : decode cL_hangs 425 = .ok (.iadd, 1) := by decide +kernel
theorem dL_hangs_426 : decode cL_hangs 426 = .ok (.istore_n 2, 1) := by decide +kernel
theorem dL_hangs_427 : decode cL_hangs 427 = .ok (.iload 6, 2) := by decide +kernel
theorem dL_hangs_429 : decode cL_hangs 429 = .ok (.iload_n 3, 1) := by decide +kernel
theorem dL_hangs_430 : decode cL_hangs 430 = .ok (.if_icmp .le 8, 3) := by decide +kernel
theorem dL_hangs_433 : decode cL_hangs 433 = .ok (.iload 6, 2) := by decide +kernel
theorem dL_hangs_435 : decode cL_hangs 435 = .ok (.goto 4, 3) := by decide +kernel
theorem dL_hangs_438 : decode cL_hangs 438 = .ok (.iload_n 3, 1) := by decide +kernel
theorem dL_hangs_439 : decode cL_hangs 439 = .ok (.istore_n 3, 1) := by decide +kernel
theorem dL_hangs_440 : decode cL_hangs 440 = .ok (.aload_n 0, 1) := by decide +kernel
theorem dL_hangs_441 : decode cL_hangs 441 = .ok (.iload 5, 2) := by decide +kernel
theorem dL_hangs_443 : decode cL_hangs 443 = .ok (.iconst 3, 1) := by decide +kernel
theorem dL_hangs_444 : decode cL_hangs 444 = .ok (.invokestatic 116, 3) := by decide +kernel
theorem dL_hangs_447 : decode cL_hangs 447 = .ok (.iload 6, 2) := by decide +kernel
theorem dL_hangs_449 : decode cL_hangs 449 = .ok (.iconst 2, 1) := by decide +kernel
theorem dL_hangs_450 : decode cL_hangs 450 = .ok (.idiv, 1) := by decide +kernel
theorem dL_hangs_451 : decode cL_hangs 451 = .ok (.if_icmp .ne 90, 3) := by decide +kernel
theorem dL_hangs_454 : decode cL_hangs 454 = .ok (.aload_n 0, 1) := by decide +kernel
theorem dL_hangs_455 : decode cL_hangs 455 = .ok (.iload 5, 2) := by decide +kernel
theorem dL_hangs_457 : decode cL_hangs 457 = .ok (.iconst 4, 1) := by decide +kernel
theorem dL_hangs_458 : decode cL_hangs 458 = .ok (.invokestatic 116, 3) := by decide +kernel
theorem dL_hangs_461 : decode cL_hangs 461 = .ok (.iload 7, 2) := by decide +kernel
theorem dL_hangs_463 : decode cL_hangs 463 = .ok (.iconst 2, 1) := by decide +kernel
theorem dL_hangs_464 : decode cL_hangs 464 = .ok (.idiv, 1) := by decide +kernel
theorem dL_hangs_465 : decode cL_hangs 465 = .ok (.if_icmp .ne 76, 3) := by decide +kernel
theorem dL_hangs_468 : decode cL_hangs 468 = .ok (.aload_n 0, 1) := by decide +kernel
theorem dL_hangs_469 : decode cL_hangs 469 = .ok (.iload 5, 2) := by decide +kernel
theorem dL_hangs_471 : decode cL_hangs 471 = .ok (.iconst 5, 1) := by decide +kernel
theorem dL_hangs_472 : decode cL_hangs 472 = .ok (.invokestatic 116, 3) := by decide +kernel
theorem dL_hangs_475 : decode cL_hangs 475 = .ok (.iload 7, 2) := by decide +kernel
theorem dL_hangs_477 : decode cL_hangs 477 = .ok (.ifCond .ne 7, 3) := by decide +kernel
theorem dL_hangs_480 : decode cL_hangs 480 = .ok (.iconst 1, 1) := by decide +kernel
theorem dL_hangs_481 : decode cL_hangs 481 = .ok (.goto 4, 3) := by decide +kernel
theorem dL_hangs_484 : decode cL_hangs 484 = .ok (.iconst 0, 1) := by decide +kernel
theorem dL_hangs_485 : decode cL_hangs 485 = .ok (.if_icmp .ne 56, 3) := by decide +kernel
theorem dL_hangs_488 : decode cL_hangs 488 = .ok (.aload_n 0, 1) := by decide +kernel
theorem dL_hangs_489 : decode cL_hangs 489 = .ok (.iload 5, 2) := by decide +kernel
theorem dL_hangs_491 : decode cL_hangs 491 = .ok (.bipush 6, 2) := by decide +kernel
theorem dL_hangs_493 : decode cL_hangs 493 = .ok (.invokestatic 116, 3) := by decide +kernel
theorem dL_hangs_496 : decode cL_hangs 496 = .ok (.iload 9, 2) := by decide +kernel
theorem dL_hangs_498 : decode cL_hangs 498 = .ok (.if_icmp .ne 43, 3) := by decide +kernel
theorem dL_hangs_501 : decode cL_hangs 501 = .ok (.aload_n 0, 1) := by decide +kernel
theorem dL_hangs_502 : decode cL_hangs 502 = .ok (.iload 5, 2) := by decide +kernel
theorem dL_hangs_504 : decode cL_hangs 504 = .ok (.iload 8, 2) := by decide +kernel
theorem dL_hangs_506 : decode cL_hangs 506 = .ok (.ifCond .ge 8, 3) := by decide +kernel
theorem dL_hangs_509 : decode cL_hangs 509 = .ok (.iload 5, 2) := by decide +kernel
theorem dL_hangs_511 : decode cL_hangs 511 = .ok (.goto 5, 3) := by decide +kernel
theorem dL_hangs_514 : decode cL_hangs 514 = .ok (.iload 8, 2) := by decide +kernel
theorem dL_hangs_516 : decode cL_hangs 516 = .ok (.invokestatic 131, 3) := by decide +kernel
theorem dL_hangs_519 : decode cL_hangs 519 = .ok (.iload 6, 2) := by decide +kernel
theorem dL_hangs_521 : decode cL_hangs 521 = .ok (.iconst 2, 1) := by decide +kernel
theorem dL_hangs_522 : decode cL_hangs 522 = .ok (.idiv, 1) := by decide +kernel
theorem dL_hangs_523 : decode cL_hangs 523 = .ok (.if_icmp .ne 18, 3) := by decide +kernel
theorem dL_hangs_526 : decode cL_hangs 526 = .ok (.aload_n 0, 1) := by decide +kernel
theorem dL_hangs_527 : decode cL_hangs 527 = .ok (.iload 5, 2) := by decide +kernel
theorem dL_hangs_529 : decode cL_hangs 529 = .ok (.iload 5, 2) := by decide +kernel
theorem dL_hangs_531 : decode cL_hangs 531 = .ok (.invokestatic 131, 3) := by decide +kernel
theorem dL_hangs_534 : decode cL_hangs 534 = .ok (.iload 6, 2) := by decide +kernel
theorem dL_hangs_536 : decode cL_hangs 536 = .ok (.iconst 2, 1) := by decide +kernel
theorem dL_hangs_537 : decode cL_hangs 537 = .ok (.idiv, 1) := by decide +kernel
theorem dL_hangs_538 : decode cL_hangs 538 = .ok (.if_icmp .le 5, 3) := by decide +kernel
theorem dL_hangs_541 : decode cL_hangs 541 = .ok (.iconst 0, 1) := by decide +kernel
theorem dL_hangs_542 : decode cL_hangs 542 = .ok (.ireturn, 1) := by decide +kernel
theorem dL_hangs_543 : decode cL_hangs 543 = .ok (.iinc 5 1, 3) := by decide +kernel
theorem dL_hangs_546 : decode cL_hangs 546 = .ok (.goto (-531), 3) := by decide +kernel
theorem dL_hangs_549 : decode cL_hangs 549 = .ok (.iconst 0, 1) := by decide +kernel
theorem dL_hangs_550 : decode cL_hangs 550 = .ok (.istore 5, 2) := by decide +kernel
theorem dL_hangs_552 : decode cL_hangs 552 = .ok (.iconst 0, 1) := by decide +kernel
theorem dL_hangs_553 : decode cL_hangs 553 = .ok (.istore 6, 2) := by decide +kernel
theorem dL_hangs_555 : decode cL_hangs 555 = .ok (.iconst 0, 1) := by decide +kernel
theorem dL_hangs_556 : decode cL_hangs 556 = .ok (.istore 7, 2) := by decide +kernel
theorem dL_hangs_558 : decode cL_hangs 558 = .ok (.iload 7, 2) := by decide +kernel
theorem dL_hangs_560 : decode cL_hangs 560 = .ok (.bipush 8, 2) := by decide +kernel
theorem dL_hangs_562 : decode cL_hangs 562 = .ok (.if_icmp .ge 69, 3) := by decide +kernel
theorem dL_hangs_565 : decode cL_hangs 565 = .ok (.iload 5, 2) := by decide +kernel
theorem dL_hangs_567 : decode cL_hangs 567 = .ok (.aload_n 0, 1) := by decide +kernel
theorem dL_hangs_568 : decode cL_hangs 568 = .ok (.iload 7, 2) := by decide +kernel
theorem dL_hangs_570 : decode cL_hangs 570 = .ok (.iconst 3, 1) := by decide +kernel
theorem dL_hangs_571 : decode cL_hangs 571 = .ok (.invokestatic 125, 3) := by decide +kernel
theorem dL_hangs_574 : decode cL_hangs 574 = .ok (.ifCond .ge 7, 3) := by decide +kernel
theorem dL_hangs_577 : decode cL_hangs 577 = .ok (.iconst 0, 1) := by decide +kernel
theorem dL_hangs_578 : decode cL_hangs 578 = .ok (.goto 4, 3) := by decide +kernel
theorem dL_hangs_581 : decode cL_hangs 581 = .ok (.iconst 1, 1) := by decide +kernel
theorem dL_hangs_582 : decode cL_hangs 582 = .ok (.iadd, 1) := by decide +kernel
theorem dL_hangs_583 : decode cL_hangs 583 = .ok (.istore 5, 2) := by decide +kernel
theorem dL_hangs_585 : decode cL_hangs 585 = .ok (.iconst 0, 1) := by decide +kernel
theorem dL_hangs_586 : decode cL_hangs 586 = .ok (.istore 8, 2) := by decide +kernel
theorem dL_hangs_588 : decode cL_hangs 588 = .ok (.iload 8, 2) := by decide +kernel
theorem dL_hangs_590 : decode cL_hangs 590 = .ok (.iload 7, 2) := by decide +kernel
theorem dL_hangs_592 : decode cL_hangs 592 = .ok (.if_icmp .ge 33, 3) := by decide +kernel
theorem dL_hangs_595 : decode cL_hangs 595 = .ok (.iload 6, 2) := by decide +kernel
theorem dL_hangs_597 : decode cL_hangs 597 = .ok (.aload 4, 2) := by decide +kernel
theorem dL_hangs_599 : decode cL_hangs 599 = .ok (.bipush 8, 2) := by decide +kernel
theorem dL_hangs_601 : decode cL_hangs 601 = .ok (.iload 7, 2) := by decide +kernel
theorem dL_hangs_603 : decode cL_hangs 603 = .ok (.imul, 1) := by decide +kernel
theorem dL_hangs_604 : decode cL_hangs 604 = .ok (.iload 8, 2) := by decide +kernel
theorem dL_hangs_606 : decode cL_hangs 606 = .ok (.iadd, 1) := by decide +kernel
theorem dL_hangs_607 : decode cL_hangs 607 = .ok (.iaload, 1) := by decide +kernel
theorem dL_hangs_608 : decode cL_hangs 608 = .ok (.ifCond .ne 7, 3) := by decide +kernel
theorem dL_hangs_611 : decode cL_hangs 611 = .ok (.iconst 1, 1) := by decide +kernel
theorem dL_hangs_612 : decode cL_hangs 612 = .ok (.goto 4, 3) := by decide +kernel
theorem dL_hangs_615 : decode cL_hangs 615 = .ok (.iconst 0, 1) := by decide +kernel
theorem dL_hangs_616 : decode cL_hangs 616 = .ok (.iadd, 1) := by decide +kernel
theorem dL_hangs_617 : decode cL_hangs 617 = .ok (.istore 6, 2) := by decide +kernel
theorem dL_hangs_619 : decode cL_hangs 619 = .ok (.iinc 8 1, 3) := by decide +kernel
theorem dL_hangs_622 : decode cL_hangs 622 = .ok (.goto (-34), 3) := by decide +kernel
theorem dL_hangs_625 : decode cL_hangs 625 = .ok (.iinc 7 1, 3) := by decide +kernel
theorem dL_hangs_628 : decode cL_hangs 628 = .ok (.goto (-70), 3) := by decide +kernel
theorem dL_hangs_631 : decode cL_hangs 631 = .ok (.aload_n 0, 1) := by decide +kernel
theorem dL_hangs_632 : decode cL_hangs 632 = .ok (.iconst 0, 1) := by decide +kernel
theorem dL_hangs_633 : decode cL_hangs 633 = .ok (.invokestatic 127, 3) := by decide +kernel
theorem dL_hangs_636 : decode cL_hangs 636 = .ok (.iload 5, 2) := by decide +kernel
theorem dL_hangs_638 : decode cL_hangs 638 = .ok (.if_icmp .ne 77, 3) := by decide +kernel
theorem dL_hangs_641 : decode cL_hangs 641 = .ok (.aload_n 0, 1) := by decide +kernel
theorem dL_hangs_642 : decode cL_hangs 642 = .ok (.iconst 1, 1) := by decide +kernel
theorem dL_hangs_643 : decode cL_hangs 643 = .ok (.invokestatic 127, 3) := by decide +kernel
theorem dL_hangs_646 : decode cL_hangs 646 = .ok (.iload 5, 2) := by decide +kernel
theorem dL_hangs_648 : decode cL_hangs 648 = .ok (.if_icmp .gt 67, 3) := by decide +kernel
theorem dL_hangs_651 : decode cL_hangs 651 = .ok (.aload_n 0, 1) := by decide +kernel
theorem dL_hangs_652 : decode cL_hangs 652 = .ok (.iconst 1, 1) := by decide +kernel
theorem dL_hangs_653 : decode cL_hangs 653 = .ok (.invokestatic 127, 3) := by decide +kernel
theorem dL_hangs_656 : decode cL_hangs 656 = .ok (.ifCond .le 7, 3) := by decide +kernel
theorem dL_hangs_659 : decode cL_hangs 659 = .ok (.iconst 1, 1) := by decide +kernel
theorem dL_hangs_660 : decode cL_hangs 660 = .ok (.goto 4, 3) := by decide +kernel
theorem dL_hangs_663 : decode cL_hangs 663 = .ok (.iconst 0, 1) := by decide +kernel
theorem dL_hangs_664 : decode cL_hangs 664 = .ok (.iload 5, 2) := by decide +kernel
theorem dL_hangs_666 : decode cL_hangs 666 = .ok (.ifCond .le 7, 3) := by decide +kernel
theorem dL_hangs_669 : decode cL_hangs 669 = .ok (.iconst 1, 1) := by decide +kernel
theorem dL_hangs_670 : decode cL_hangs 670 = .ok (.goto 4, 3) := by decide +kernel
theorem dL_hangs_673 : decode cL_hangs 673 = .ok (.iconst 0, 1) := by decide +kernel
theorem dL_hangs_674 : decode cL_hangs 674 = .ok (.if_icmp .ne 41, 3) := by decide +kernel
theorem dL_hangs_677 : decode cL_hangs 677 = .ok (.aload_n 0, 1) := by decide +kernel
theorem dL_hangs_678 : decode cL_hangs 678 = .ok (.iconst 3, 1) := by decide +kernel
theorem dL_hangs_679 : decode cL_hangs 679 = .ok (.invokestatic 127, 3) := by decide +kernel
theorem dL_hangs_682 : decode cL_hangs 682 = .ok (.iload 6, 2) := by decide +kernel
theorem dL_hangs_684 : decode cL_hangs 684 = .ok (.if_icmp .ne 31, 3) := by decide +kernel
theorem dL_hangs_687 : decode cL_hangs 687 = .ok (.aload_n 0, 1) := by decide +kernel
theorem dL_hangs_688 : decode cL_hangs 688 = .ok (.iconst 4, 1) := by decide +kernel
theorem dL_hangs_689 : decode cL_hangs 689 = .ok (.invokestatic 127, 3) := by decide +kernel
theorem dL_hangs_692 : decode cL_hangs 692 = .ok (.iload_n 1, 1) := by decide +kernel
theorem dL_hangs_693 : decode cL_hangs 693 = .ok (.if_icmp .ne 22, 3) := by decide +kernel
theorem dL_hangs_696 : decode cL_hangs 696 = .ok (.aload_n 0, 1) := by decide +kernel
theorem dL_hangs_697 : decode cL_hangs 697 = .ok (.aload_n 0, 1) := by decide +kernel
theorem dL_hangs_698 : decode cL_hangs 698 = .ok (.invokevirtual 133, 3) := by decide +kernel
theorem dL_hangs_701 : decode cL_hangs 701 = .ok (.iconst 3, 1) := by decide +kernel
theorem dL_hangs_702 : decode cL_hangs 702 = .ok (.invokestatic 116, 3) := by decide +kernel
theorem dL_hangs_705 : decode cL_hangs 705 = .ok (.iload_n 3, 1) := by decide +kernel
theorem dL_hangs_706 : decode cL_hangs 706 = .ok (.iconst 2, 1) := by decide +kernel
theorem dL_hangs_707 : decode cL_hangs 707 = .ok (.idiv, 1) := by decide +kernel
theorem dL_hangs_708 : decode cL_hangs 708 = .ok (.if_icmp .ne 7, 3) := by decide +kernel
theorem dL_hangs_711 : decode cL_hangs 711 = .ok (.iconst 1, 1) := by decide +kernel
theorem dL_hangs_712 : decode cL_hangs 712 = .ok (.goto 4, 3) := by decide +kernel
theorem dL_hangs_715 : decode cL_hangs 715 = .ok (.iconst 0, 1) := by decide +kernel
theorem dL_hangs_716 : decode cL_hangs 716 = .ok (.istore 7, 2) := by decide +kernel
theorem dL_hangs_718 : decode cL_hangs 718 = .ok (.iload 7, 2) := by decide +kernel
theorem dL_hangs_720 : decode cL_hangs 720 = .ok (.ifCond .eq 23, 3) := by decide +kernel
theorem dL_hangs_723 : decode cL_hangs 723 = .ok (.aload_n 0, 1) := by decide +kernel
theorem dL_hangs_724 : decode cL_hangs 724 = .ok (.invokevirtual 136, 3) := by decide +kernel
theorem dL_hangs_727 : decode cL_hangs 727 = .ok (.iload_n 2, 1) := by decide +kernel
theorem dL_hangs_728 : decode cL_hangs 728 = .ok (.iconst 2, 1) := by decide +kernel
theorem dL_hangs_729 : decode cL_hangs 729 = .ok (.idiv, 1) := by decide +kernel
theorem dL_hangs_730 : decode cL_hangs 730 = .ok (.i2d, 1) := by decide +kernel
theorem dL_hangs_731 : decode cL_hangs 731 = .ok (.ldc2_w 140, 3) := by decide +kernel
theorem dL_hangs_734 : decode cL_hangs 734 = .ok (.ddiv, 1) := by decide +kernel
theorem dL_hangs_735 : decode cL_hangs 735 = .ok (.dcmp .l, 1) := by decide +kernel
theorem dL_hangs_736 : decode cL_hangs 736 = .ok (.ifCond .ne 7, 3) := by decide +kernel
theorem dL_hangs_739 : decode cL_hangs 739 = .ok (.iconst 1, 1) := by decide +kernel
theorem dL_hangs_740 : decode cL_hangs 740 = .ok (.goto 4, 3) := by decide +kernel
theorem dL_hangs_743 : decode cL_hangs 743 = .ok (.iconst 0, 1) := by decide +kernel
theorem dL_hangs_744 : decode cL_hangs 744 = .ok (.ireturn, 1) := by decide +kernel
set_option maxRecDepth 20000 in
theorem ggL_print_L_count : GoodIn wsL_print wsL_count := goodIn_ca (goodIn_r _ [6, 7, 8, 9, 10, 11, 12, 13, 14, 15, 16, 17, 18, 19, 20, 21, 22, 23, 24, 25, 26, 27, 28, 29, 30, 31, 32, 33, 34, 35, 36, 37, 38, 39, 40, 41, 42, 43, 44, 45, 46, 47, 48, 49, 50, 51, 52, 53, 54, 55, 56, 57, 58, 59, 60, 61, 62, 63, 64, 65, 66, 67, 68, 69, 70, 71, 72, 73, 135, 136, 137, 138, 139, 140, 141, 142, 143, 144, 145, 146, 147, 148, 149, 150, 151, 152] (by decide +kernel) (by decide +kernel)) (goodIn_sub (fun _ h => List.mem_cons_of_mem _ (List.mem_append_left _ (List.mem_append_right _ h))) (by decide +kernel))
set_option maxRecDepth 20000 in
theorem gL_print_L_count : GoodIn wsL_print (va_wsS RL 127 yL_count wsL_count) := goodIn_app (goodIn_of _ (by decide +kernel)) ggL_print_L_count
set_option maxRecDepth 20000 in
theorem ggL_print_L_potOf : GoodIn wsL_print wsL_potOf := goodIn_ca (goodIn_ca (goodIn_r _ [76, 77, 7, 8, 78, 79, 80, 81, 12, 82, 16, 83, 84, 85, 86, 87, 88, 89, 90, 14, 15, 91, 92, 53, 93, 94, 95, 96, 21, 97, 39, 40, 41, 42, 43, 44, 45, 46, 47, 48, 49, 50, 51, 52, 54, 55, 56, 57, 58, 59, 60, 61, 135, 136, 137, 138, 139, 140, 141, 142, 143, 144, 145, 146, 147, 148] (by decide +kernel) (by decide +kernel)) (goodIn_sub (fun _ h => List.mem_cons_of_mem _ (List.mem_append_right _ h)) (by decide +kernel))) (goodIn_sub (fun _ h => List.mem_cons_of_mem _ (List.mem_append_left _ (List.mem_append_right _ h))) (by decide +kernel))
set_option maxRecDepth 20000 in
theorem gL_print_L_potOf : GoodIn wsL_print (va_wsS RL 125 yL_potOf wsL_potOf) := goodIn_app (goodIn_of _ (by decide +kernel)) ggL_print_L_potOf
set_option maxRecDepth 20000 in
theorem ggL_print_L_painterOf : GoodIn wsL_print wsL_painterOf := goodIn_ca (goodIn_ca (goodIn_r _ [100, 77, 7, 8, 78, 101, 102, 103, 12, 104, 14, 15, 16, 105, 106, 107, 86, 87, 108, 109, 110, 21, 111, 44, 45, 46, 47, 48, 49, 50, 51, 52, 53, 54, 55, 56, 57, 58, 59, 60, 61, 112, 67, 68, 69, 23, 70, 71, 72, 73, 43, 113, 114, 115, 116, 117, 118, 119, 135, 136, 137, 138, 139, 140, 141, 142, 143, 144, 145, 146, 147, 148] (by decide +kernel) (by decide +kernel)) (goodIn_sub (fun _ h => List.mem_cons_of_mem _ (List.mem_append_left _ (List.mem_append_right _ h))) (by decide +kernel))) (goodIn_sub (fun _ h => List.mem_cons_of_mem _ (List.mem_append_right _ h)) (by decide +kernel))
set_option maxRecDepth 20000 in
theorem gL_print_L_painterOf : GoodIn wsL_print (va_wsS RL 116 yL_painterOf wsL_painterOf) := goodIn_app (goodIn_of _ (by decide +kernel)) ggL_print_L_painterOf
set_option maxRecDepth 20000 in
theorem ggL_print_L_chartOf : GoodIn wsL_print wsL_chartOf := goodIn_ca (goodIn_ca (goodIn_r _ [122, 77, 7, 8, 78, 123, 124, 125, 12, 126, 14, 15, 16, 127, 128, 129, 130, 86, 87, 131, 132, 133, 21, 134, 118, 119, 39, 40, 41, 42, 43, 44, 45, 46, 47, 48, 49, 50, 51, 52, 53, 54, 55, 56, 57, 58, 59, 60, 61, 135, 136, 137, 138, 139, 140, 141, 142, 143, 144, 145, 146, 147, 148] (by decide +kernel) (by decide +kernel)) (goodIn_sub (fun _ h => List.mem_cons_of_mem _ (List.mem_append_left _ (List.mem_append_right _ h))) (by decide +kernel))) (goodIn_sub (fun _ h => List.mem_cons_of_mem _ (List.mem_append_right _ h)) (by decide +kernel))
set_option maxRecDepth 20000 in
theorem gL_print_L_chartOf : GoodIn wsL_print (va_wsS RL 129 yL_chartOf wsL_chartOf) := goodIn_app (goodIn_of _ (by decide +kernel)) ggL_print_L_chartOf
theorem dL_print_0 : decode cL_print 0 = .ok (.ldc2_w 142, 3) := by decide +kernel
theorem dL_print_3 : decode cL_print 3 = .ok (.lstore_n 1, 1) := by decide +kernel
theorem dL_print_4 : decode cL_print 4 = .ok (.iconst 0, 1) := by decide +kernel
theorem dL_print_5 : decode cL_print 5 = .ok (.istore_n 3, 1) := by decide +kernel
theorem dL_print_6 : decode cL_print 6 = .ok (.iload_n 3, 1) := by decide +kernel
theorem dL_print_7 : decode cL_print 7 = .ok (.bipush 7, 2) := by decide +kernel
theorem dL_print_9 : decode cL_print 9 = .ok (.if_icmp .ge 22, 3) := by decide +kernel
theorem dL_print_12 : decode cL_print 12 = .ok (.ldc2_w 144, 3) := by decide +kernel
theorem dL_print_15 : decode cL_print 15 = .ok (.lload_n 1, 1) := by decide +kernel
theorem dL_print_16 : decode cL_print 16 = .ok (.lmul, 1) := by decide +kernel
theorem dL_print_17 : decode cL_print 17 = .ok (.aload_n 0, 1) := by decide +kernel
theorem dL_print_18 : decode cL_print 18 = .ok (.iload_n 3, 1) := by decide +kernel
theorem dL_print_19 : decode cL_print 19 = .ok (.invokestatic 127, 3) := by decide +kernel
theorem dL_print_22 : decode cL_print 22 = .ok (.i2l, 1) := by decide +kernel
theorem dL_print_23 : decode cL_print 23 = .ok (.ladd, 1) := by decide +kernel
theorem dL_print_24 : decode cL_print 24 = .ok (.lstore_n 1, 1) := by decide +kernel
theorem dL_print_25 : decode cL_print 25 = .ok (.iinc 3 1, 3) := by decide +kernel
theorem dL_print_28 : decode cL_print 28 = .ok (.goto (-22), 3) := by decide +kernel
theorem dL_print_31 : decode cL_print 31 = .ok (.iconst 0, 1) := by decide +kernel
theorem dL_print_32 : decode cL_print 32 = .ok (.istore_n 3, 1) := by decide +kernel
theorem dL_print_33 : decode cL_print 33 = .ok (.iload_n 3, 1) := by decide +kernel
theorem dL_print_34 : decode cL_print 34 = .ok (.bipush 32, 2) := by decide +kernel
theorem dL_print_36 : decode cL_print 36 = .ok (.if_icmp .ge 27, 3) := by decide +kernel
theorem dL_print_39 : decode cL_print 39 = .ok (.ldc2_w 144, 3) := by decide +kernel
theorem dL_print_42 : decode cL_print 42 = .ok (.lload_n 1, 1) := by decide +kernel
theorem dL_print_43 : decode cL_print 43 = .ok (.lmul, 1) := by decide +kernel
theorem dL_print_44 : decode cL_print 44 = .ok (.aload_n 0, 1) := by decide +kernel
theorem dL_print_45 : decode cL_print 45 = .ok (.iload_n 3, 1) := by decide +kernel
theorem dL_print_46 : decode cL_print 46 = .ok (.iconst 4, 1) := by decide +kernel
theorem dL_print_47 : decode cL_print 47 = .ok (.idiv, 1) := by decide +kernel
theorem dL_print_48 : decode cL_print 48 = .ok (.iload_n 3, 1) := by decide +kernel
theorem dL_print_49 : decode cL_print 49 = .ok (.iconst 4, 1) := by decide +kernel
theorem dL_print_50 : decode cL_print 50 = .ok (.irem, 1) := by decide +kernel
theorem dL_print_51 : decode cL_print 51 = .ok (.invokestatic 125, 3) := by decide +kernel
theorem dL_print_54 : decode cL_print 54 = .ok (.i2l, 1) := by decide +kernel
theorem dL_print_55 : decode cL_print 55 = .ok (.ladd, 1) := by decide +kernel
theorem dL_print_56 : decode cL_print 56 = .ok (.lstore_n 1, 1) := by decide +kernel
theorem dL_print_57 : decode cL_print 57 = .ok (.iinc 3 1, 3) := by decide +kernel
theorem dL_print_60 : decode cL_print 60 = .ok (.goto (-27), 3) := by decide +kernel
theorem dL_print_63 : decode cL_print 63 = .ok (.iconst 0, 1) := by decide +kernel
theorem dL_print_64 : decode cL_print 64 = .ok (.istore_n 3, 1) := by decide +kernel
theorem dL_print_65 : decode cL_print 65 = .ok (.iload_n 3, 1) := by decide +kernel
theorem dL_print_66 : decode cL_print 66 = .ok (.bipush 28, 2) := by decide +kernel
theorem dL_print_68 : decode cL_print 68 = .ok (.if_icmp .ge 29, 3) := by decide +kernel
theorem dL_print_71 : decode cL_print 71 = .ok (.ldc2_w 144, 3) := by decide +kernel
theorem dL_print_74 : decode cL_print 74 = .ok (.lload_n 1, 1) := by decide +kernel
theorem dL_print_75 : decode cL_print 75 = .ok (.lmul, 1) := by decide +kernel
theorem dL_print_76 : decode cL_print 76 = .ok (.aload_n 0, 1) := by decide +kernel
theorem dL_print_77 : decode cL_print 77 = .ok (.iload_n 3, 1) := by decide +kernel
theorem dL_print_78 : decode cL_print 78 = .ok (.bipush 7, 2) := by decide +kernel
theorem dL_print_80 : decode cL_print 80 = .ok (.idiv, 1) := by decide +kernel
theorem dL_print_81 : decode cL_print 81 = .ok (.iload_n 3, 1) := by decide +kernel
theorem dL_print_82 : decode cL_print 82 = .ok (.bipush 7, 2) := by decide +kernel
theorem dL_print_84 : decode cL_print 84 = .ok (.irem, 1) := by decide +kernel
theorem dL_print_85 : decode cL_print 85 = .ok (.invokestatic 116, 3) := by decide +kernel
theorem dL_print_88 : decode cL_print 88 = .ok (.i2l, 1) := by decide +kernel
theorem dL_print_89 : decode cL_print 89 = .ok (.ladd, 1) := by decide +kernel
theorem dL_print_90 : decode cL_print 90 = .ok (.lstore_n 1, 1) := by decide +kernel
theorem dL_print_91 : decode cL_print 91 = .ok (.iinc 3 1, 3) := by decide +kernel
theorem dL_print_94 : decode cL_print 94 = .ok (.goto (-29), 3) := by decide +kernel
theorem dL_print_97 : decode cL_print 97 = .ok (.iconst 0, 1) := by decide +kernel
theorem dL_print_98 : decode cL_print 98 = .ok (.istore_n 3, 1) := by decide +kernel
theorem dL_print_99 : decode cL_print 99 = .ok (.iload_n 3, 1) := by decide +kernel
theorem dL_print_100 : decode cL_print 100 = .ok (.iconst 3, 1) := by decide +kernel
theorem dL_print_101 : decode cL_print 101 = .ok (.aload_n 0, 1) := by decide +kernel
theorem dL_print_102 : decode cL_print 102 = .ok (.iconst 2, 1) := by decide +kernel
theorem dL_print_103 : decode cL_print 103 = .ok (.invokestatic 127, 3) := by decide +kernel
theorem dL_print_106 : decode cL_print 106 = .ok (.imul, 1) := by decide +kernel
theorem dL_print_107 : decode cL_print 107 = .ok (.if_icmp .ge 27, 3) := by decide +kernel
theorem dL_print_110 : decode cL_print 110 = .ok (.ldc2_w 144, 3) := by decide +kernel
theorem dL_print_113 : decode cL_print 113 = .ok (.lload_n 1, 1) := by decide +kernel
theorem dL_print_114 : decode cL_print 114 = .ok (.lmul, 1) := by decide +kernel
theorem dL_print_115 : decode cL_print 115 = .ok (.aload_n 0, 1) := by decide +kernel
theorem dL_print_116 : decode cL_print 116 = .ok (.iload_n 3, 1) := by decide +kernel
theorem dL_print_117 : decode cL_print 117 = .ok (.iconst 3, 1) := by decide +kernel
theorem dL_print_118 : decode cL_print 118 = .ok (.idiv, 1) := by decide +kernel
theorem dL_print_119 : decode cL_print 119 = .ok (.iload_n 3, 1) := by decide +kernel
theorem dL_print_120 : decode cL_print 120 = .ok (.iconst 3, 1) := by decide +kernel
theorem dL_print_121 : decode cL_print 121 = .ok (.irem, 1) := by decide +kernel
theorem dL_print_122 : decode cL_print 122 = .ok (.invokestatic 129, 3) := by decide +kernel
theorem dL_print_125 : decode cL_print 125 = .ok (.i2l, 1) := by decide +kernel
theorem dL_print_126 : decode cL_print 126 = .ok (.ladd, 1) := by decide +kernel
theorem dL_print_127 : decode cL_print 127 = .ok (.lstore_n 1, 1) := by decide +kernel
theorem dL_print_128 : decode cL_print 128 = .ok (.iinc 3 1, 3) := by decide +kernel
theorem dL_print_131 : decode cL_print 131 = .ok (.goto (-32), 3) := by decide +kernel
theorem dL_print_134 : decode cL_print 134 = .ok (.lload_n 1, 1) := by decide +kernel
theorem dL_print_135 : decode cL_print 135 = .ok (.lreturn, 1) := by decide +kernel
set_option maxRecDepth 20000 in
theorem ggL_labels_L_print : GoodIn wsL_labels wsL_print := goodIn_ca (goodIn_ca (goodIn_r _ [4, 5, 6, 7, 8, 3, 9, 10, 11, 12, 13, 14, 15, 16, 17, 18, 19, 20, 21, 22, 23, 24, 25, 26, 27, 28, 29, 30, 31, 32, 33, 34, 35, 36, 37, 38, 39, 40, 41, 42, 43, 44, 45, 46, 47, 48, 49, 50, 51, 52, 53, 54, 55, 56, 57, 58, 59, 60, 61, 62, 63, 64, 65, 66, 67, 68, 69, 70, 71, 72, 73, 74, 75, 76, 77, 78, 79, 80, 81, 82, 83, 84, 85, 86, 87, 88, 89, 90, 91, 92, 93, 94, 95, 96, 97, 98, 99, 100, 101, 102, 103, 104, 105, 106, 107, 108, 109, 110, 111, 112, 113, 114, 115, 116, 117, 118, 119, 120, 121, 122, 123, 124, 125, 126, 127, 128, 129, 130, 131, 132, 133, 134, 135, 136, 137, 231, 232, 233, 234, 235, 236, 237, 238, 239, 240, 241, 242, 243, 244, 245, 246, 247, 248] (by decide +kernel) (by decide +kernel)) (goodIn_sub (fun _ h => List.mem_cons_of_mem _ (List.mem_append_left _ (List.mem_append_left _ (List.mem_append_right _ h)))) (by decide +kernel))) (goodIn_sub (fun _ h => List.mem_cons_of_mem _ (List.mem_append_left _ (List.mem_append_right _ h))) (by decide +kernel))
set_option maxRecDepth 20000 in
theorem gL_labels_L_print : GoodIn wsL_labels (va_wsS RL 146 yL_print wsL_print) := goodIn_app (goodIn_of _ (by decide +kernel)) ggL_labels_L_print
set_option maxRecDepth 20000 in
theorem ggL_labels_L_fewest : GoodIn wsL_labels wsL_fewest := goodIn_ca (goodIn_ca (goodIn_r _ [140, 80, 10, 11, 81, 141, 142, 143, 15, 144, 145, 19, 108, 109, 110, 89, 90, 91, 92, 93, 17, 18, 146, 147, 148, 149, 150, 151, 152, 74, 75, 24, 76, 46, 47, 48, 49, 50, 51, 52, 53, 54, 55, 56, 57, 58, 59, 60, 61, 62, 63, 64, 153, 154, 155, 156, 157, 158, 159, 160, 161, 162, 163, 164, 165, 166, 167, 168, 169, 170, 171, 172, 173, 231, 232, 233, 234, 249, 250, 251, 252, 235, 236, 237, 238, 239, 240, 241, 242, 243, 244] (by decide +kernel) (by decide +kernel)) (goodIn_sub (fun _ h => List.mem_cons_of_mem _ (List.mem_append_left _ (List.mem_append_right _ h))) (by decide +kernel))) (goodIn_sub (fun _ h => List.mem_cons_of_mem _ (List.mem_append_left _ (List.mem_append_left _ (List.mem_append_right _ h)))) (by decide +kernel))
set_option maxRecDepth 20000 in
theorem gL_labels_L_fewest : GoodIn wsL_labels (va_wsS RL 150 yL_fewest wsL_fewest) := goodIn_app (goodIn_of _ (by decide +kernel)) ggL_labels_L_fewest
set_option maxRecDepth 20000 in
theorem ggL_labels_L_labelAll : GoodIn wsL_labels wsL_labelAll := goodIn_ca (goodIn_r _ [176, 80, 11, 177, 178, 179, 15, 180, 20, 19, 108, 109, 110, 89, 90, 181, 182, 183, 184, 185, 186, 187, 188, 189, 190, 191, 192, 193, 194, 24, 195, 47, 196, 197, 198, 199, 26, 53, 52, 46, 121, 122, 120, 200, 201, 202, 203, 204, 205, 73, 74, 75, 76, 48, 49, 50, 51, 54, 55, 56, 57, 58, 59, 60, 61, 62, 63, 64, 206, 207, 208, 27, 28, 29, 30, 31, 32, 33, 34, 35, 36, 37, 231, 232, 233, 234, 245, 246, 247, 248, 235, 236, 237, 238, 239, 240, 241, 242, 243, 244] (by decide +kernel) (by decide +kernel)) (goodIn_sub (fun _ h => List.mem_cons_of_mem _ (List.mem_append_left _ (List.mem_append_right _ h))) (by decide +kernel))
set_option maxRecDepth 20000 in
theorem gL_labels_L_labelAll : GoodIn wsL_labels (va_wsS RL 105 yL_labelAll wsL_labelAll) := goodIn_app (goodIn_of _ (by decide +kernel)) ggL_labels_L_labelAll
set_option maxRecDepth 20000 in
theorem ggL_labels_L_count : GoodIn wsL_labels wsL_count := goodIn_ca (goodIn_r _ [9, 10, 11, 12, 13, 14, 15, 16, 17, 18, 19, 20, 21, 22, 23, 24, 25, 26, 27, 28, 29, 30, 31, 32, 33, 34, 35, 36, 37, 38, 39, 40, 41, 42, 43, 44, 45, 46, 47, 48, 49, 50, 51, 52, 53, 54, 55, 56, 57, 58, 59, 60, 61, 62, 63, 64, 65, 66, 67, 68, 69, 70, 71, 72, 73, 74, 75, 76, 231, 232, 233, 234, 235, 236, 237, 238, 239, 240, 241, 242, 243, 244, 245, 246, 247, 248] (by decide +kernel) (by decide +kernel)) (goodIn_sub (fun _ h => List.mem_cons_of_mem _ (List.mem_append_left _ (List.mem_append_left _ (List.mem_append_right _ h)))) (by decide +kernel))
set_option maxRecDepth 20000 in
theorem gL_labels_L_count : GoodIn wsL_labels (va_wsS RL 127 yL_count wsL_count) := goodIn_app (goodIn_of _ (by decide +kernel)) ggL_labels_L_count
set_option maxRecDepth 20000 in
theorem ggL_labels_L_painterOf : GoodIn wsL_labels wsL_painterOf := goodIn_ca (goodIn_ca (goodIn_r _ [103, 80, 10, 11, 81, 104, 105, 106, 15, 107, 17, 18, 19, 108, 109, 110, 89, 90, 111, 112, 113, 24, 114, 47, 48, 49, 50, 51, 52, 53, 54, 55, 56, 57, 58, 59, 60, 61, 62, 63, 64, 115, 70, 71, 72, 26, 73, 74, 75, 76, 46, 116, 117, 118, 119, 120, 121, 122, 231, 232, 233, 234, 235, 236, 237, 238, 239, 240, 241, 242, 243, 244] (by decide +kernel) (by decide +kernel)) (goodIn_sub (fun _ h => List.mem_cons_of_mem _ (List.mem_append_left _ (List.mem_append_left _ (List.mem_append_right _ h)))) (by decide +kernel))) (goodIn_sub (fun _ h => List.mem_cons_of_mem _ (List.mem_append_left _ (List.mem_append_right _ h))) (by decide +kernel))
set_option maxRecDepth 20000 in
theorem gL_labels_L_painterOf : GoodIn wsL_labels (va_wsS RL 116 yL_painterOf wsL_painterOf) := goodIn_app (goodIn_of _ (by decide +kernel)) ggL_labels_L_painterOf
set_option maxRecDepth 20000 in
theorem ggL_labels_L_potOf : GoodIn wsL_labels wsL_potOf := goodIn_ca (goodIn_ca (goodIn_r _ [79, 80, 10, 11, 81, 82, 83, 84, 15, 85, 19, 86, 87, 88, 89, 90, 91, 92, 93, 17, 18, 94, 95, 56, 96, 97, 98, 99, 24, 100, 42, 43, 44, 45, 46, 47, 48, 49, 50, 51, 52, 53, 54, 55, 57, 58, 59, 60, 61, 62, 63, 64, 231, 232, 233, 234, 235, 236, 237, 238, 239, 240, 241, 242, 243, 244] (by decide +kernel) (by decide +kernel)) (goodIn_sub (fun _ h => List.mem_cons_of_mem _ (List.mem_append_left _ (List.mem_append_right _ h))) (by decide +kernel))) (goodIn_sub (fun _ h => List.mem_cons_of_mem _ (List.mem_append_left _ (List.mem_append_left _ (List.mem_append_right _ h)))) (by decide +kernel))
set_option maxRecDepth 20000 in
theorem gL_labels_L_potOf : GoodIn wsL_labels (va_wsS RL 125 yL_potOf wsL_potOf) := goodIn_app (goodIn_of _ (by decide +kernel)) ggL_labels_L_potOf
set_option maxRecDepth 20000 in
theorem ggL_labels_L_apart : GoodIn wsL_labels wsL_apart := goodIn_ca (goodIn_r _ [211, 80, 11, 212, 213, 214, 15, 215, 19, 108, 109, 110, 89, 90, 86, 87, 88, 216, 74, 75, 24, 76, 46, 47, 48, 49, 50, 51, 52, 53, 54, 55, 56, 57, 58, 59, 60, 61, 62, 63, 64, 231, 232, 233, 234, 235, 236, 237, 238, 239, 240, 241, 242, 243, 244] (by decide +kernel) (by decide +kernel)) (goodIn_sub (fun _ h => List.mem_cons_of_mem _ (List.mem_append_left _ (List.mem_append_right _ h))) (by decide +kernel))
set_option maxRecDepth 20000 in
theorem gL_labels_L_apart : GoodIn wsL_labels (va_wsS RL 118 yL_apart wsL_apart) := goodIn_app (goodIn_of _ (by decide +kernel)) ggL_labels_L_apart
set_option maxRecDepth 20000 in
theorem ggL_labels_L_undo : GoodIn wsL_labels wsL_undo := goodIn_ca (goodIn_r _ [219, 220, 11, 221, 222, 223, 15, 224, 225, 226, 20, 19, 227, 228, 229, 184, 230, 186, 187, 192, 193, 194, 24, 195, 47, 196, 197, 198, 199, 26, 53, 52, 46, 121, 122, 120, 200, 201, 231, 232, 233, 234, 245, 246, 247, 248, 235, 236, 237, 238, 239, 240, 241, 242, 243, 244] (by decide +kernel) (by decide +kernel)) (goodIn_sub (fun _ h => List.mem_cons_of_mem _ (List.mem_append_right _ h)) (by decide +kernel))
set_option maxRecDepth 20000 in
theorem gL_labels_L_undo : GoodIn wsL_labels (va_wsS RL 152 yL_undo wsL_undo) := goodIn_app (goodIn_of _ (by decide +kernel)) ggL_labels_L_undo
theorem dL_labels_0 : decode cL_labels 0 = .ok (.aload_n 0, 1) := by decide +kernel
theorem dL_labels_1 : decode cL_labels 1 = .ok (.invokestatic 146, 3) := by decide +kernel
theorem dL_labels_4 : decode cL_labels 4 = .ok (.lstore_n 2, 1) := by decide +kernel
theorem dL_labels_5 : decode cL_labels 5 = .ok (.aload_n 0, 1) := by decide +kernel
theorem dL_labels_6 : decode cL_labels 6 = .ok (.iload_n 1, 1) := by decide +kernel
theorem dL_labels_7 : decode cL_labels 7 = .ok (.iconst 0, 1) := by decide +kernel
theorem dL_labels_8 : decode cL_labels 8 = .ok (.invokestatic 150, 3) := by decide +kernel
theorem dL_labels_11 : decode cL_labels 11 = .ok (.istore 4, 2) := by decide +kernel
theorem dL_labels_13 : decode cL_labels 13 = .ok (.aload_n 0, 1) := by decide +kernel
theorem dL_labels_14 : decode cL_labels 14 = .ok (.iload_n 1, 1) := by decide +kernel
theorem dL_labels_15 : decode cL_labels 15 = .ok (.invokestatic 105, 3) := by decide +kernel
theorem dL_labels_18 : decode cL_labels 18 = .ok (.istore 5, 2) := by decide +kernel
theorem dL_labels_20 : decode cL_labels 20 = .ok (.iload 4, 2) := by decide +kernel
theorem dL_labels_22 : decode cL_labels 22 = .ok (.aload_n 0, 1) := by decide +kernel
theorem dL_labels_23 : decode cL_labels 23 = .ok (.iload_n 1, 1) := by decide +kernel
theorem dL_labels_24 : decode cL_labels 24 = .ok (.iconst 1, 1) := by decide +kernel
theorem dL_labels_25 : decode cL_labels 25 = .ok (.invokestatic 150, 3) := by decide +kernel
theorem dL_labels_28 : decode cL_labels 28 = .ok (.if_icmp .ne 112, 3) := by decide +kernel
theorem dL_labels_31 : decode cL_labels 31 = .ok (.iload 5, 2) := by decide +kernel
theorem dL_labels_33 : decode cL_labels 33 = .ok (.iload 4, 2) := by decide +kernel
theorem dL_labels_35 : decode cL_labels 35 = .ok (.if_icmp .lt 105, 3) := by decide +kernel
theorem dL_labels_38 : decode cL_labels 38 = .ok (.iload 5, 2) := by decide +kernel
theorem dL_labels_40 : decode cL_labels 40 = .ok (.aload_n 0, 1) := by decide +kernel
theorem dL_labels_41 : decode cL_labels 41 = .ok (.iconst 1, 1) := by decide +kernel
theorem dL_labels_42 : decode cL_labels 42 = .ok (.invokestatic 127, 3) := by decide +kernel
theorem dL_labels_45 : decode cL_labels 45 = .ok (.if_icmp .ne 95, 3) := by decide +kernel
theorem dL_labels_48 : decode cL_labels 48 = .ok (.aload_n 0, 1) := by decide +kernel
theorem dL_labels_49 : decode cL_labels 49 = .ok (.iconst 0, 1) := by decide +kernel
theorem dL_labels_50 : decode cL_labels 50 = .ok (.invokestatic 127, 3) := by decide +kernel
theorem dL_labels_53 : decode cL_labels 53 = .ok (.bipush 8, 2) := by decide +kernel
theorem dL_labels_55 : decode cL_labels 55 = .ok (.if_icmp .ne 85, 3) := by decide +kernel
theorem dL_labels_58 : decode cL_labels 58 = .ok (.aload_n 0, 1) := by decide +kernel
theorem dL_labels_59 : decode cL_labels 59 = .ok (.iload_n 1, 1) := by decide +kernel
theorem dL_labels_60 : decode cL_labels 60 = .ok (.iconst 5, 1) := by decide +kernel
theorem dL_labels_61 : decode cL_labels 61 = .ok (.invokestatic 116, 3) := by decide +kernel
theorem dL_labels_64 : decode cL_labels 64 = .ok (.iconst 1, 1) := by decide +kernel
theorem dL_labels_65 : decode cL_labels 65 = .ok (.if_icmp .ne 75, 3) := by decide +kernel
theorem dL_labels_68 : decode cL_labels 68 = .ok (.aload_n 0, 1) := by decide +kernel
theorem dL_labels_69 : decode cL_labels 69 = .ok (.iconst 0, 1) := by decide +kernel
theorem dL_labels_70 : decode cL_labels 70 = .ok (.iconst 3, 1) := by decide +kernel
theorem dL_labels_71 : decode cL_labels 71 = .ok (.invokestatic 125, 3) := by decide +kernel
theorem dL_labels_74 : decode cL_labels 74 = .ok (.ifCond .ne 66, 3) := by decide +kernel
theorem dL_labels_77 : decode cL_labels 77 = .ok (.iload 4, 2) := by decide +kernel
theorem dL_labels_79 : decode cL_labels 79 = .ok (.iconst 1, 1) := by decide +kernel
theorem dL_labels_80 : decode cL_labels 80 = .ok (.if_icmp .ne 7, 3) := by decide +kernel
theorem dL_labels_83 : decode cL_labels 83 = .ok (.iconst 1, 1) := by decide +kernel
theorem dL_labels_84 : decode cL_labels 84 = .ok (.goto 4, 3) := by decide +kernel
theorem dL_labels_87 : decode cL_labels 87 = .ok (.iconst 0, 1) := by decide +kernel
theorem dL_labels_88 : decode cL_labels 88 = .ok (.aload_n 0, 1) := by decide +kernel
theorem dL_labels_89 : decode cL_labels 89 = .ok (.iload_n 1, 1) := by decide +kernel
theorem dL_labels_90 : decode cL_labels 90 = .ok (.iconst 3, 1) := by decide +kernel
theorem dL_labels_91 : decode cL_labels 91 = .ok (.invokestatic 116, 3) := by decide +kernel
theorem dL_labels_94 : decode cL_labels 94 = .ok (.ifCond .ne 7, 3) := by decide +kernel
theorem dL_labels_97 : decode cL_labels 97 = .ok (.iconst 1, 1) := by decide +kernel
theorem dL_labels_98 : decode cL_labels 98 = .ok (.goto 4, 3) := by decide +kernel
theorem dL_labels_101 : decode cL_labels 101 = .ok (.iconst 0, 1) := by decide +kernel
theorem dL_labels_102 : decode cL_labels 102 = .ok (.if_icmp .ne 38, 3) := by decide +kernel
theorem dL_labels_105 : decode cL_labels 105 = .ok (.iload 4, 2) := by decide +kernel
theorem dL_labels_107 : decode cL_labels 107 = .ok (.iconst 1, 1) := by decide +kernel
theorem dL_labels_108 : decode cL_labels 108 = .ok (.if_icmp .lt 32, 3) := by decide +kernel
theorem dL_labels_111 : decode cL_labels 111 = .ok (.iload 4, 2) := by decide +kernel
theorem dL_labels_113 : decode cL_labels 113 = .ok (.bipush 8, 2) := by decide +kernel
theorem dL_labels_115 : decode cL_labels 115 = .ok (.if_icmp .gt 25, 3) := by decide +kernel
theorem dL_labels_118 : decode cL_labels 118 = .ok (.iload 4, 2) := by decide +kernel
theorem dL_labels_120 : decode cL_labels 120 = .ok (.iconst 1, 1) := by decide +kernel
theorem dL_labels_121 : decode cL_labels 121 = .ok (.isub, 1) := by decide +kernel
theorem dL_labels_122 : decode cL_labels 122 = .ok (.iload 4, 2) := by decide +kernel
theorem dL_labels_124 : decode cL_labels 124 = .ok (.imul, 1) := by decide +kernel
theorem dL_labels_125 : decode cL_labels 125 = .ok (.iconst 2, 1) := by decide +kernel
theorem dL_labels_126 : decode cL_labels 126 = .ok (.idiv, 1) := by decide +kernel
theorem dL_labels_127 : decode cL_labels 127 = .ok (.aload_n 0, 1) := by decide +kernel
theorem dL_labels_128 : decode cL_labels 128 = .ok (.iload_n 1, 1) := by decide +kernel
theorem dL_labels_129 : decode cL_labels 129 = .ok (.iconst 3, 1) := by decide +kernel
theorem dL_labels_130 : decode cL_labels 130 = .ok (.invokestatic 116, 3) := by decide +kernel
theorem dL_labels_133 : decode cL_labels 133 = .ok (.if_icmp .gt 7, 3) := by decide +kernel
theorem dL_labels_136 : decode cL_labels 136 = .ok (.iconst 1, 1) := by decide +kernel
theorem dL_labels_137 : decode cL_labels 137 = .ok (.goto 4, 3) := by decide +kernel
theorem dL_labels_140 : decode cL_labels 140 = .ok (.iconst 0, 1) := by decide +kernel
theorem dL_labels_141 : decode cL_labels 141 = .ok (.istore 6, 2) := by decide +kernel
theorem dL_labels_143 : decode cL_labels 143 = .ok (.iconst 0, 1) := by decide +kernel
theorem dL_labels_144 : decode cL_labels 144 = .ok (.istore 7, 2) := by decide +kernel
theorem dL_labels_146 : decode cL_labels 146 = .ok (.iload 7, 2) := by decide +kernel
theorem dL_labels_148 : decode cL_labels 148 = .ok (.bipush 8, 2) := by decide +kernel
theorem dL_labels_150 : decode cL_labels 150 = .ok (.if_icmp .ge 108, 3) := by decide +kernel
theorem dL_labels_153 : decode cL_labels 153 = .ok (.iload 6, 2) := by decide +kernel
theorem dL_labels_155 : decode cL_labels 155 = .ok (.ifCond .eq 103, 3) := by decide +kernel
theorem dL_labels_158 : decode cL_labels 158 = .ok (.iconst 0, 1) := by decide +kernel
theorem dL_labels_159 : decode cL_labels 159 = .ok (.istore 8, 2) := by decide +kernel
theorem dL_labels_161 : decode cL_labels 161 = .ok (.iload 8, 2) := by decide +kernel
theorem dL_labels_163 : decode cL_labels 163 = .ok (.aload_n 0, 1) := by decide +kernel
theorem dL_labels_164 : decode cL_labels 164 = .ok (.iload 7, 2) := by decide +kernel
theorem dL_labels_166 : decode cL_labels 166 = .ok (.iconst 3, 1) := by decide +kernel
theorem dL_labels_167 : decode cL_labels 167 = .ok (.invokestatic 125, 3) := by decide +kernel
theorem dL_labels_170 : decode cL_labels 170 = .ok (.if_icmp .ge 82, 3) := by decide +kernel
theorem dL_labels_173 : decode cL_labels 173 = .ok (.iconst 0, 1) := by decide +kernel
theorem dL_labels_174 : decode cL_labels 174 = .ok (.istore 9, 2) := by decide +kernel
theorem dL_labels_176 : decode cL_labels 176 = .ok (.iconst 0, 1) := by decide +kernel
theorem dL_labels_177 : decode cL_labels 177 = .ok (.istore 10, 2) := by decide +kernel
theorem dL_labels_179 : decode cL_labels 179 = .ok (.iload 10, 2) := by decide +kernel
theorem dL_labels_181 : decode cL_labels 181 = .ok (.iload 7, 2) := by decide +kernel
theorem dL_labels_183 : decode cL_labels 183 = .ok (.if_icmp .ge 46, 3) := by decide +kernel
theorem dL_labels_186 : decode cL_labels 186 = .ok (.iload 9, 2) := by decide +kernel
theorem dL_labels_188 : decode cL_labels 188 = .ok (.ifCond .ne 28, 3) := by decide +kernel
theorem dL_labels_191 : decode cL_labels 191 = .ok (.aload_n 0, 1) := by decide +kernel
theorem dL_labels_192 : decode cL_labels 192 = .ok (.iload 10, 2) := by decide +kernel
theorem dL_labels_194 : decode cL_labels 194 = .ok (.iconst 3, 1) := by decide +kernel
theorem dL_labels_195 : decode cL_labels 195 = .ok (.invokestatic 125, 3) := by decide +kernel
theorem dL_labels_198 : decode cL_labels 198 = .ok (.iload 8, 2) := by decide +kernel
theorem dL_labels_200 : decode cL_labels 200 = .ok (.if_icmp .ne 20, 3) := by decide +kernel
theorem dL_labels_203 : decode cL_labels 203 = .ok (.aload_n 0, 1) := by decide +kernel
theorem dL_labels_204 : decode cL_labels 204 = .ok (.iload_n 1, 1) := by decide +kernel
theorem dL_labels_205 : decode cL_labels 205 = .ok (.iload 10, 2) := by decide +kernel
theorem dL_labels_207 : decode cL_labels 207 = .ok (.iload 7, 2) := by decide +kernel
theorem dL_labels_209 : decode cL_labels 209 = .ok (.invokestatic 118, 3) := by decide +kernel
theorem dL_labels_212 : decode cL_labels 212 = .ok (.iconst 1, 1) := by decide +kernel
theorem dL_labels_213 : decode cL_labels 213 = .ok (.if_icmp .ne 7, 3) := by decide +kernel
theorem dL_labels_216 : decode cL_labels 216 = .ok (.iconst 1, 1) := by decide +kernel
theorem dL_labels_217 : decode cL_labels 217 = .ok (.goto 4, 3) := by decide +kernel
theorem dL_labels_220 : decode cL_labels 220 = .ok (.iconst 0, 1) := by decide +kernel
theorem dL_labels_221 : decode cL_labels 221 = .ok (.istore 9, 2) := by decide +kernel
theorem dL_labels_223 : decode cL_labels 223 = .ok (.iinc 10 1, 3) := by decide +kernel
theorem dL_labels_226 : decode cL_labels 226 = .ok (.goto (-47), 3) := by decide +kernel
theorem dL_labels_229 : decode cL_labels 229 = .ok (.iload 6, 2) := by decide +kernel
theorem dL_labels_231 : decode cL_labels 231 = .ok (.ifCond .eq 12, 3) := by decide +kernel
theorem dL_labels_234 : decode cL_labels 234 = .ok (.iload 9, 2) := by decide +kernel
theorem dL_labels_236 : decode cL_labels 236 = .ok (.ifCond .eq 7, 3) := by decide +kernel
theorem dL_labels_239 : decode cL_labels 239 = .ok (.iconst 1, 1) := by decide +kernel
theorem dL_labels_240 : decode cL_labels 240 = .ok (.goto 4, 3) := by decide +kernel
theorem dL_labels_243 : decode cL_labels 243 = .ok (.iconst 0, 1) := by decide +kernel
theorem dL_labels_244 : decode cL_labels 244 = .ok (.istore 6, 2) := by decide +kernel
theorem dL_labels_246 : decode cL_labels 246 = .ok (.iinc 8 1, 3) := by decide +kernel
theorem dL_labels_249 : decode cL_labels 249 = .ok (.goto (-88), 3) := by decide +kernel
theorem dL_labels_252 : decode cL_labels 252 = .ok (.iinc 7 1, 3) := by decide +kernel
theorem dL_labels_255 : decode cL_labels 255 = .ok (.goto (-109), 3) := by decide +kernel
theorem dL_labels_258 : decode cL_labels 258 = .ok (.iload 6, 2) := by decide +kernel
theorem dL_labels_260 : decode cL_labels 260 = .ok (.ifCond .eq 23, 3) := by decide +kernel
theorem dL_labels_263 : decode cL_labels 263 = .ok (.aload_n 0, 1) := by decide +kernel
theorem dL_labels_264 : decode cL_labels 264 = .ok (.invokestatic 152, 3) := by decide +kernel
theorem dL_labels_267 : decode cL_labels 267 = .ok (.ifCond .lt 16, 3) := by decide +kernel
theorem dL_labels_270 : decode cL_labels 270 = .ok (.aload_n 0, 1) := by decide +kernel
theorem dL_labels_271 : decode cL_labels 271 = .ok (.invokestatic 146, 3) := by decide +kernel
theorem dL_labels_274 : decode cL_labels 274 = .ok (.lload_n 2, 1) := by decide +kernel
theorem dL_labels_275 : decode cL_labels 275 = .ok (.lcmp, 1) := by decide +kernel
theorem dL_labels_276 : decode cL_labels 276 = .ok (.ifCond .ne 7, 3) := by decide +kernel
theorem dL_labels_279 : decode cL_labels 279 = .ok (.iconst 1, 1) := by decide +kernel
theorem dL_labels_280 : decode cL_labels 280 = .ok (.goto 4, 3) := by decide +kernel
theorem dL_labels_283 : decode cL_labels 283 = .ok (.iconst 0, 1) := by decide +kernel
theorem dL_labels_284 : decode cL_labels 284 = .ok (.ireturn, 1) := by decide +kernel
set_option maxRecDepth 20000 in
theorem ggL_borrows_L_print : GoodIn wsL_borrows wsL_print := goodIn_ca (goodIn_ca (goodIn_r _ [4, 5, 6, 7, 8, 3, 9, 10, 11, 12, 13, 14, 15, 16, 17, 18, 19, 20, 21, 22, 23, 24, 25, 26, 27, 28, 29, 30, 31, 32, 33, 34, 35, 36, 37, 38, 39, 40, 41, 42, 43, 44, 45, 46, 47, 48, 49, 50, 51, 52, 53, 54, 55, 56, 57, 58, 59, 60, 61, 62, 63, 64, 65, 66, 67, 68, 69, 70, 71, 72, 73, 74, 75, 76, 77, 78, 79, 80, 81, 82, 83, 84, 85, 86, 87, 88, 89, 90, 91, 92, 93, 94, 95, 96, 97, 98, 99, 100, 101, 102, 103, 104, 105, 106, 107, 108, 109, 110, 111, 112, 113, 114, 115, 116, 117, 118, 119, 120, 121, 122, 123, 124, 125, 126, 127, 128, 129, 130, 131, 132, 133, 134, 135, 136, 137, 187, 188, 189, 190, 191, 192, 193, 194, 195, 196, 197, 198, 199, 200, 201, 202, 203, 204] (by decide +kernel) (by decide +kernel)) (goodIn_sub (fun _ h => List.mem_cons_of_mem _ (List.mem_append_left _ (List.mem_append_left _ (List.mem_append_right _ h)))) (by decide +kernel))) (goodIn_sub (fun _ h => List.mem_cons_of_mem _ (List.mem_append_left _ (List.mem_append_right _ h))) (by decide +kernel))
set_option maxRecDepth 20000 in
theorem gL_borrows_L_print : GoodIn wsL_borrows (va_wsS RL 146 yL_print wsL_print) := goodIn_app (goodIn_of _ (by decide +kernel)) ggL_borrows_L_print
set_option maxRecDepth 20000 in
theorem ggL_borrows_L_ifBorrowed : GoodIn wsL_borrows wsL_ifBorrowed := goodIn_ca (goodIn_r _ [140, 80, 11, 141, 142, 143, 15, 144, 19, 108, 109, 110, 89, 90, 111, 112, 113, 24, 114, 47, 48, 49, 50, 51, 52, 53, 54, 55, 56, 57, 58, 59, 60, 61, 62, 63, 64, 187, 188, 189, 190, 191, 192, 193, 194, 195, 196, 197, 198, 199, 200] (by decide +kernel) (by decide +kernel)) (goodIn_sub (fun _ h => List.mem_cons_of_mem _ (List.mem_append_left _ (List.mem_append_right _ h))) (by decide +kernel))
set_option maxRecDepth 20000 in
theorem gL_borrows_L_ifBorrowed : GoodIn wsL_borrows (va_wsS RL 131 yL_ifBorrowed wsL_ifBorrowed) := goodIn_app (goodIn_of _ (by decide +kernel)) ggL_borrows_L_ifBorrowed
set_option maxRecDepth 20000 in
theorem ggL_borrows_L_painterOf : GoodIn wsL_borrows wsL_painterOf := goodIn_ca (goodIn_ca (goodIn_r _ [103, 80, 10, 11, 81, 104, 105, 106, 15, 107, 17, 18, 19, 108, 109, 110, 89, 90, 111, 112, 113, 24, 114, 47, 48, 49, 50, 51, 52, 53, 54, 55, 56, 57, 58, 59, 60, 61, 62, 63, 64, 115, 70, 71, 72, 26, 73, 74, 75, 76, 46, 116, 117, 118, 119, 120, 121, 122, 187, 188, 189, 190, 191, 192, 193, 194, 195, 196, 197, 198, 199, 200] (by decide +kernel) (by decide +kernel)) (goodIn_sub (fun _ h => List.mem_cons_of_mem _ (List.mem_append_left _ (List.mem_append_left _ (List.mem_append_right _ h)))) (by decide +kernel))) (goodIn_sub (fun _ h => List.mem_cons_of_mem _ (List.mem_append_left _ (List.mem_append_right _ h))) (by decide +kernel))
set_option maxRecDepth 20000 in
theorem gL_borrows_L_painterOf : GoodIn wsL_borrows (va_wsS RL 116 yL_painterOf wsL_painterOf) := goodIn_app (goodIn_of _ (by decide +kernel)) ggL_borrows_L_painterOf
set_option maxRecDepth 20000 in
theorem ggL_borrows_L_borrow : GoodIn wsL_borrows wsL_borrow := goodIn_ca (goodIn_r _ [147, 80, 11, 148, 149, 150, 15, 151, 20, 19, 108, 109, 110, 89, 90, 152, 153, 154, 155, 156, 157, 158, 159, 160, 161, 162, 163, 164, 165, 24, 166, 47, 167, 168, 169, 170, 26, 53, 52, 46, 121, 122, 120, 171, 172, 187, 188, 189, 190, 191, 192, 193, 194, 195, 196, 197, 198, 199, 200, 201, 202, 203, 204] (by decide +kernel) (by decide +kernel)) (goodIn_sub (fun _ h => List.mem_cons_of_mem _ (List.mem_append_left _ (List.mem_append_right _ h))) (by decide +kernel))
set_option maxRecDepth 20000 in
theorem gL_borrows_L_borrow : GoodIn wsL_borrows (va_wsS RL 109 yL_borrow wsL_borrow) := goodIn_app (goodIn_of _ (by decide +kernel)) ggL_borrows_L_borrow
set_option maxRecDepth 20000 in
theorem ggL_borrows_L_undo : GoodIn wsL_borrows wsL_undo := goodIn_ca (goodIn_r _ [175, 176, 11, 177, 178, 179, 15, 180, 181, 182, 20, 19, 183, 184, 185, 155, 186, 157, 158, 163, 164, 165, 24, 166, 47, 167, 168, 169, 170, 26, 53, 52, 46, 121, 122, 120, 171, 172, 187, 188, 189, 190, 201, 202, 203, 204, 191, 192, 193, 194, 195, 196, 197, 198, 199, 200] (by decide +kernel) (by decide +kernel)) (goodIn_sub (fun _ h => List.mem_cons_of_mem _ (List.mem_append_right _ h)) (by decide +kernel))
set_option maxRecDepth 20000 in
theorem gL_borrows_L_undo : GoodIn wsL_borrows (va_wsS RL 152 yL_undo wsL_undo) := goodIn_app (goodIn_of _ (by decide +kernel)) ggL_borrows_L_undo
theorem dL_borrows_0 : decode cL_borrows 0 = .ok (.aload_n 0, 1) := by decide +kernel
theorem dL_borrows_1 : decode cL_borrows 1 = .ok (.invokestatic 146, 3) := by decide +kernel
theorem dL_borrows_4 : decode cL_borrows 4 = .ok (.lstore_n 3, 1) := by decide +kernel
theorem dL_borrows_5 : decode cL_borrows 5 = .ok (.aload_n 0, 1) := by decide +kernel
theorem dL_borrows_6 : decode cL_borrows 6 = .ok (.iload_n 1, 1) := by decide +kernel
theorem dL_borrows_7 : decode cL_borrows 7 = .ok (.iload_n 2, 1) := by decide +kernel
theorem dL_borrows_8 : decode cL_borrows 8 = .ok (.invokestatic 131, 3) := by decide +kernel
theorem dL_borrows_11 : decode cL_borrows 11 = .ok (.istore 5, 2) := by decide +kernel
theorem dL_borrows_13 : decode cL_borrows 13 = .ok (.aload_n 0, 1) := by decide +kernel
theorem dL_borrows_14 : decode cL_borrows 14 = .ok (.iload_n 1, 1) := by decide +kernel
theorem dL_borrows_15 : decode cL_borrows 15 = .ok (.iconst 2, 1) := by decide +kernel
theorem dL_borrows_16 : decode cL_borrows 16 = .ok (.invokestatic 116, 3) := by decide +kernel
theorem dL_borrows_19 : decode cL_borrows 19 = .ok (.istore 6, 2) := by decide +kernel
theorem dL_borrows_21 : decode cL_borrows 21 = .ok (.aload_n 0, 1) := by decide +kernel
theorem dL_borrows_22 : decode cL_borrows 22 = .ok (.iload_n 1, 1) := by decide +kernel
theorem dL_borrows_23 : decode cL_borrows 23 = .ok (.iload_n 2, 1) := by decide +kernel
theorem dL_borrows_24 : decode cL_borrows 24 = .ok (.invokestatic 109, 3) := by decide +kernel
theorem dL_borrows_27 : decode cL_borrows 27 = .ok (.iload 6, 2) := by decide +kernel
theorem dL_borrows_29 : decode cL_borrows 29 = .ok (.if_icmp .ne 37, 3) := by decide +kernel
theorem dL_borrows_32 : decode cL_borrows 32 = .ok (.aload_n 0, 1) := by decide +kernel
theorem dL_borrows_33 : decode cL_borrows 33 = .ok (.iload_n 1, 1) := by decide +kernel
theorem dL_borrows_34 : decode cL_borrows 34 = .ok (.iconst 3, 1) := by decide +kernel
theorem dL_borrows_35 : decode cL_borrows 35 = .ok (.invokestatic 116, 3) := by decide +kernel
theorem dL_borrows_38 : decode cL_borrows 38 = .ok (.iload 5, 2) := by decide +kernel
theorem dL_borrows_40 : decode cL_borrows 40 = .ok (.if_icmp .ne 26, 3) := by decide +kernel
theorem dL_borrows_43 : decode cL_borrows 43 = .ok (.aload_n 0, 1) := by decide +kernel
theorem dL_borrows_44 : decode cL_borrows 44 = .ok (.iload_n 1, 1) := by decide +kernel
theorem dL_borrows_45 : decode cL_borrows 45 = .ok (.iconst 2, 1) := by decide +kernel
theorem dL_borrows_46 : decode cL_borrows 46 = .ok (.invokestatic 116, 3) := by decide +kernel
theorem dL_borrows_49 : decode cL_borrows 49 = .ok (.iload_n 1, 1) := by decide +kernel
theorem dL_borrows_50 : decode cL_borrows 50 = .ok (.iload_n 2, 1) := by decide +kernel
theorem dL_borrows_51 : decode cL_borrows 51 = .ok (.if_icmp .ne 7, 3) := by decide +kernel
theorem dL_borrows_54 : decode cL_borrows 54 = .ok (.iconst (-1), 1) := by decide +kernel
theorem dL_borrows_55 : decode cL_borrows 55 = .ok (.goto 4, 3) := by decide +kernel
theorem dL_borrows_58 : decode cL_borrows 58 = .ok (.iload_n 2, 1) := by decide +kernel
theorem dL_borrows_59 : decode cL_borrows 59 = .ok (.if_icmp .ne 7, 3) := by decide +kernel
theorem dL_borrows_62 : decode cL_borrows 62 = .ok (.iconst 1, 1) := by decide +kernel
theorem dL_borrows_63 : decode cL_borrows 63 = .ok (.goto 4, 3) := by decide +kernel
theorem dL_borrows_66 : decode cL_borrows 66 = .ok (.iconst 0, 1) := by decide +kernel
theorem dL_borrows_67 : decode cL_borrows 67 = .ok (.istore 7, 2) := by decide +kernel
theorem dL_borrows_69 : decode cL_borrows 69 = .ok (.iload 7, 2) := by decide +kernel
theorem dL_borrows_71 : decode cL_borrows 71 = .ok (.ifCond .eq 23, 3) := by decide +kernel
theorem dL_borrows_74 : decode cL_borrows 74 = .ok (.aload_n 0, 1) := by decide +kernel
theorem dL_borrows_75 : decode cL_borrows 75 = .ok (.invokestatic 152, 3) := by decide +kernel
theorem dL_borrows_78 : decode cL_borrows 78 = .ok (.ifCond .lt 16, 3) := by decide +kernel
theorem dL_borrows_81 : decode cL_borrows 81 = .ok (.aload_n 0, 1) := by decide +kernel
theorem dL_borrows_82 : decode cL_borrows 82 = .ok (.invokestatic 146, 3) := by decide +kernel
theorem dL_borrows_85 : decode cL_borrows 85 = .ok (.lload_n 3, 1) := by decide +kernel
theorem dL_borrows_86 : decode cL_borrows 86 = .ok (.lcmp, 1) := by decide +kernel
theorem dL_borrows_87 : decode cL_borrows 87 = .ok (.ifCond .ne 7, 3) := by decide +kernel
theorem dL_borrows_90 : decode cL_borrows 90 = .ok (.iconst 1, 1) := by decide +kernel
theorem dL_borrows_91 : decode cL_borrows 91 = .ok (.goto 4, 3) := by decide +kernel
theorem dL_borrows_94 : decode cL_borrows 94 = .ok (.iconst 0, 1) := by decide +kernel
theorem dL_borrows_95 : decode cL_borrows 95 = .ok (.ireturn, 1) := by decide +kernel
set_option maxRecDepth 20000 in
theorem ggL_corrects_L_count : GoodIn wsL_corrects wsL_count := goodIn_ca (goodIn_r _ [4, 5, 6, 7, 8, 9, 10, 11, 12, 13, 14, 15, 16, 17, 18, 19, 20, 21, 22, 23, 24, 25, 26, 27, 28, 29, 30, 31, 32, 33, 34, 35, 36, 37, 38, 39, 40, 41, 42, 43, 44, 45, 46, 47, 48, 49, 50, 51, 52, 53, 54, 55, 56, 57, 58, 59, 60, 61, 62, 63, 64, 65, 66, 67, 68, 69, 70, 71, 237, 238, 239, 240, 241, 242, 243, 244, 245, 246, 247, 248, 249, 250, 251, 252, 253, 254] (by decide +kernel) (by decide +kernel)) (goodIn_sub (fun _ h => List.mem_cons_of_mem _ (List.mem_append_left _ (List.mem_append_left _ (List.mem_append_right _ h)))) (by decide +kernel))
set_option maxRecDepth 20000 in
theorem gL_corrects_L_count : GoodIn wsL_corrects (va_wsS RL 127 yL_count wsL_count) := goodIn_app (goodIn_of _ (by decide +kernel)) ggL_corrects_L_count
set_option maxRecDepth 20000 in
theorem ggL_corrects_L_hang : GoodIn wsL_corrects wsL_hang := goodIn_ca (goodIn_ca (goodIn_r _ [74, 75, 5, 6, 76, 77, 78, 79, 10, 80, 15, 14, 81, 82, 83, 84, 85, 86, 87, 88, 12, 13, 89, 90, 91, 92, 93, 94, 95, 96, 97, 98, 99, 100, 101, 102, 19, 103, 42, 104, 105, 106, 107, 21, 48, 47, 41, 108, 109, 110, 111, 112, 113, 114, 115, 116, 237, 238, 239, 240, 251, 252, 253, 254, 241, 242, 243, 244, 245, 246, 247, 248, 249, 250] (by decide +kernel) (by decide +kernel)) (goodIn_sub (fun _ h => List.mem_cons_of_mem _ (List.mem_append_left _ (List.mem_append_right _ h))) (by decide +kernel))) (goodIn_sub (fun _ h => List.mem_cons_of_mem _ (List.mem_append_left _ (List.mem_append_left _ (List.mem_append_right _ h)))) (by decide +kernel))
set_option maxRecDepth 20000 in
theorem gL_corrects_L_hang : GoodIn wsL_corrects (va_wsS RL 98 yL_hang wsL_hang) := goodIn_app (goodIn_of _ (by decide +kernel)) ggL_corrects_L_hang
set_option maxRecDepth 20000 in
theorem ggL_corrects_L_undo : GoodIn wsL_corrects wsL_undo := goodIn_ca (goodIn_r _ [119, 120, 6, 121, 122, 123, 10, 124, 125, 126, 15, 14, 127, 128, 129, 92, 130, 94, 95, 100, 101, 102, 19, 103, 42, 104, 105, 106, 107, 21, 48, 47, 41, 108, 109, 110, 111, 112, 237, 238, 239, 240, 251, 252, 253, 254, 241, 242, 243, 244, 245, 246, 247, 248, 249, 250] (by decide +kernel) (by decide +kernel)) (goodIn_sub (fun _ h => List.mem_cons_of_mem _ (List.mem_append_right _ h)) (by decide +kernel))
set_option maxRecDepth 20000 in
theorem gL_corrects_L_undo : GoodIn wsL_corrects (va_wsS RL 152 yL_undo wsL_undo) := goodIn_app (goodIn_of _ (by decide +kernel)) ggL_corrects_L_undo
set_option maxRecDepth 20000 in
theorem ggL_corrects_L_print : GoodIn wsL_corrects wsL_print := goodIn_ca (goodIn_ca (goodIn_r _ [133, 134, 135, 1, 2, 3, 4, 5, 6, 7, 8, 9, 10, 11, 12, 13, 14, 15, 16, 17, 18, 19, 20, 21, 22, 23, 24, 25, 26, 27, 28, 29, 30, 31, 32, 33, 34, 35, 36, 37, 38, 39, 40, 41, 42, 43, 44, 45, 46, 47, 48, 49, 50, 51, 52, 53, 54, 55, 56, 57, 58, 59, 60, 61, 62, 63, 64, 65, 66, 67, 68, 69, 70, 71, 136, 137, 138, 75, 76, 139, 140, 141, 142, 81, 82, 83, 84, 85, 143, 144, 145, 146, 147, 148, 149, 150, 151, 152, 153, 154, 155, 156, 157, 158, 159, 160, 161, 162, 163, 164, 165, 166, 167, 168, 169, 170, 171, 110, 108, 109, 172, 173, 174, 175, 176, 177, 178, 179, 180, 181, 182, 183, 184, 185, 186, 237, 238, 239, 240, 241, 242, 243, 244, 245, 246, 247, 248, 249, 250, 251, 252, 253, 254] (by decide +kernel) (by decide +kernel)) (goodIn_sub (fun _ h => List.mem_cons_of_mem _ (List.mem_append_left _ (List.mem_append_left _ (List.mem_append_right _ h)))) (by decide +kernel))) (goodIn_sub (fun _ h => List.mem_cons_of_mem _ (List.mem_append_left _ (List.mem_append_right _ h))) (by decide +kernel))
set_option maxRecDepth 20000 in
theorem gL_corrects_L_print : GoodIn wsL_corrects (va_wsS RL 146 yL_print wsL_print) := goodIn_app (goodIn_of _ (by decide +kernel)) ggL_corrects_L_print
set_option maxRecDepth 20000 in
theorem ggL_corrects_L_potOf : GoodIn wsL_corrects wsL_potOf := goodIn_ca (goodIn_ca (goodIn_r _ [138, 75, 5, 6, 76, 139, 140, 141, 10, 142, 14, 81, 82, 83, 84, 85, 143, 144, 145, 12, 13, 146, 147, 51, 148, 149, 150, 151, 19, 152, 37, 38, 39, 40, 41, 42, 43, 44, 45, 46, 47, 48, 49, 50, 52, 53, 54, 55, 56, 57, 58, 59, 237, 238, 239, 240, 241, 242, 243, 244, 245, 246, 247, 248, 249, 250] (by decide +kernel) (by decide +kernel)) (goodIn_sub (fun _ h => List.mem_cons_of_mem _ (List.mem_append_left _ (List.mem_append_right _ h))) (by decide +kernel))) (goodIn_sub (fun _ h => List.mem_cons_of_mem _ (List.mem_append_left _ (List.mem_append_left _ (List.mem_append_right _ h)))) (by decide +kernel))
set_option maxRecDepth 20000 in
theorem gL_corrects_L_potOf : GoodIn wsL_corrects (va_wsS RL 125 yL_potOf wsL_potOf) := goodIn_app (goodIn_of _ (by decide +kernel)) ggL_corrects_L_potOf
set_option maxRecDepth 20000 in
theorem ggL_corrects_L_leastChange : GoodIn wsL_corrects wsL_leastChange := goodIn_ca (goodIn_ca (goodIn_r _ [189, 75, 5, 6, 76, 190, 191, 192, 10, 193, 14, 160, 161, 162, 84, 85, 81, 82, 83, 86, 87, 88, 12, 13, 194, 195, 196, 19, 197, 42, 41, 198, 199, 51, 200, 201, 50, 52, 53, 54, 55, 56, 57, 58, 59, 43, 44, 45, 46, 47, 48, 49, 202, 237, 238, 239, 240, 241, 242, 243, 244, 245, 246, 247, 248, 249, 250] (by decide +kernel) (by decide +kernel)) (goodIn_sub (fun _ h => List.mem_cons_of_mem _ (List.mem_append_left _ (List.mem_append_right _ h))) (by decide +kernel))) (goodIn_sub (fun _ h => List.mem_cons_of_mem _ (List.mem_append_left _ (List.mem_append_left _ (List.mem_append_right _ h)))) (by decide +kernel))
set_option maxRecDepth 20000 in
theorem gL_corrects_L_leastChange : GoodIn wsL_corrects (va_wsS RL 154 yL_leastChange wsL_leastChange) := goodIn_app (goodIn_of _ (by decide +kernel)) ggL_corrects_L_leastChange
set_option maxRecDepth 20000 in
theorem ggL_corrects_L_chartOf : GoodIn wsL_corrects wsL_chartOf := goodIn_ca (goodIn_ca (goodIn_r _ [174, 75, 5, 6, 76, 175, 176, 177, 10, 178, 12, 13, 14, 179, 180, 181, 182, 84, 85, 183, 184, 185, 19, 186, 108, 109, 37, 38, 39, 40, 41, 42, 43, 44, 45, 46, 47, 48, 49, 50, 51, 52, 53, 54, 55, 56, 57, 58, 59, 237, 238, 239, 240, 241, 242, 243, 244, 245, 246, 247, 248, 249, 250] (by decide +kernel) (by decide +kernel)) (goodIn_sub (fun _ h => List.mem_cons_of_mem _ (List.mem_append_left _ (List.mem_append_left _ (List.mem_append_right _ h)))) (by decide +kernel))) (goodIn_sub (fun _ h => List.mem_cons_of_mem _ (List.mem_append_left _ (List.mem_append_right _ h))) (by decide +kernel))
set_option maxRecDepth 20000 in
theorem gL_corrects_L_chartOf : GoodIn wsL_corrects (va_wsS RL 129 yL_chartOf wsL_chartOf) := goodIn_app (goodIn_of _ (by decide +kernel)) ggL_corrects_L_chartOf
set_option maxRecDepth 20000 in
theorem ggL_corrects_L_correct : GoodIn wsL_corrects wsL_correct := goodIn_ca (goodIn_r _ [205, 75, 6, 206, 207, 208, 10, 209, 15, 14, 179, 180, 181, 182, 84, 85, 160, 161, 162, 89, 90, 91, 92, 93, 94, 95, 96, 97, 98, 99, 100, 101, 102, 19, 103, 42, 104, 105, 106, 107, 21, 48, 47, 41, 108, 109, 110, 111, 112, 210, 211, 212, 213, 214, 195, 196, 197, 198, 199, 51, 200, 201, 50, 52, 53, 54, 55, 56, 57, 58, 59, 43, 44, 45, 46, 49, 237, 238, 239, 240, 241, 242, 243, 244, 245, 246, 247, 248, 249, 250, 251, 252, 253, 254] (by decide +kernel) (by decide +kernel)) (goodIn_sub (fun _ h => List.mem_cons_of_mem _ (List.mem_append_left _ (List.mem_append_right _ h))) (by decide +kernel))
set_option maxRecDepth 20000 in
theorem gL_corrects_L_correct : GoodIn wsL_corrects (va_wsS RL 103 yL_correct wsL_correct) := goodIn_app (goodIn_of _ (by decide +kernel)) ggL_corrects_L_correct
set_option maxRecDepth 20000 in
theorem ggL_corrects_L_far : GoodIn wsL_corrects wsL_far := goodIn_r _ [217] (by decide +kernel) (by decide +kernel)
set_option maxRecDepth 20000 in
theorem gL_corrects_L_far : GoodIn wsL_corrects (va_wsS RL 122 yL_far wsL_far) := goodIn_app (goodIn_of _ (by decide +kernel)) ggL_corrects_L_far
set_option maxRecDepth 20000 in
theorem ggL_corrects_L_apart : GoodIn wsL_corrects wsL_apart := goodIn_ca (goodIn_r _ [220, 75, 6, 221, 222, 223, 10, 224, 14, 160, 161, 162, 84, 85, 81, 82, 83, 225, 69, 70, 19, 71, 41, 42, 43, 44, 45, 46, 47, 48, 49, 50, 51, 52, 53, 54, 55, 56, 57, 58, 59, 237, 238, 239, 240, 241, 242, 243, 244, 245, 246, 247, 248, 249, 250] (by decide +kernel) (by decide +kernel)) (goodIn_sub (fun _ h => List.mem_cons_of_mem _ (List.mem_append_left _ (List.mem_append_right _ h))) (by decide +kernel))
set_option maxRecDepth 20000 in
theorem gL_corrects_L_apart : GoodIn wsL_corrects (va_wsS RL 118 yL_apart wsL_apart) := goodIn_app (goodIn_of _ (by decide +kernel)) ggL_corrects_L_apart
set_option maxRecDepth 20000 in
theorem ggL_corrects_L_mix : GoodIn wsL_corrects wsL_mix := goodIn_ca (goodIn_ca (goodIn_r _ [228, 75, 5, 6, 76, 229, 230, 231, 10, 232, 15, 14, 81, 82, 83, 84, 85, 143, 144, 145, 12, 13, 89, 90, 91, 92, 93, 94, 95, 96, 97, 98, 99, 100, 101, 102, 19, 103, 42, 104, 105, 106, 107, 21, 48, 47, 41, 108, 109, 110, 111, 112, 146, 147, 51, 148, 233, 234, 235, 236, 237, 238, 239, 240, 241, 242, 243, 244, 245, 246, 247, 248, 249, 250, 251, 252, 253, 254] (by decide +kernel) (by decide +kernel)) (goodIn_sub (fun _ h => List.mem_cons_of_mem _ (List.mem_append_left _ (List.mem_append_right _ h))) (by decide +kernel))) (goodIn_sub (fun _ h => List.mem_cons_of_mem _ (List.mem_append_left _ (List.mem_append_left _ (List.mem_append_right _ h)))) (by decide +kernel))
set_option maxRecDepth 20000 in
theorem gL_corrects_L_mix : GoodIn wsL_corrects (va_wsS RL 114 yL_mix wsL_mix) := goodIn_app (goodIn_of _ (by decide +kernel)) ggL_corrects_L_mix
theorem dL_corrects_0 : decode cL_corrects 0 = .ok (.aload_n 0, 1) := by decide +kernel
theorem dL_corrects_1 : decode cL_corrects 1 = .ok (.iconst 2, 1) := by decide +kernel
theorem dL_corrects_2 : decode cL_corrects 2 = .ok (.invokestatic 127, 3) := by decide +kernel
theorem dL_corrects_5 : decode cL_corrects 5 = .ok (.bipush 6, 2) := by decide +kernel
theorem dL_corrects_7 : decode cL_corrects 7 = .ok (.if_icmp .ne 26, 3) := by decide +kernel
theorem dL_corrects_10 : decode cL_corrects 10 = .ok (.aload_n 0, 1) := by decide +kernel
theorem dL_corrects_11 : decode cL_corrects 11 = .ok (.iload_n 2, 1) := by decide +kernel
theorem dL_corrects_12 : decode cL_corrects 12 = .ok (.iload_n 3, 1) := by decide +kernel
theorem dL_corrects_13 : decode cL_corrects 13 = .ok (.invokestatic 98, 3) := by decide +kernel
theorem dL_corrects_16 : decode cL_corrects 16 = .ok (.iconst (-1), 1) := by decide +kernel
theorem dL_corrects_17 : decode cL_corrects 17 = .ok (.if_icmp .ne 14, 3) := by decide +kernel
theorem dL_corrects_20 : decode cL_corrects 20 = .ok (.aload_n 0, 1) := by decide +kernel
theorem dL_corrects_21 : decode cL_corrects 21 = .ok (.invokestatic 152, 3) := by decide +kernel
theorem dL_corrects_24 : decode cL_corrects 24 = .ok (.ifCond .lt 7, 3) := by decide +kernel
theorem dL_corrects_27 : decode cL_corrects 27 = .ok (.iconst 1, 1) := by decide +kernel
theorem dL_corrects_28 : decode cL_corrects 28 = .ok (.goto 4, 3) := by decide +kernel
theorem dL_corrects_31 : decode cL_corrects 31 = .ok (.iconst 0, 1) := by decide +kernel
theorem dL_corrects_32 : decode cL_corrects 32 = .ok (.ireturn, 1) := by decide +kernel
theorem dL_corrects_33 : decode cL_corrects 33 = .ok (.aload_n 0, 1) := by decide +kernel
theorem dL_corrects_34 : decode cL_corrects 34 = .ok (.invokestatic 146, 3) := by decide +kernel
theorem dL_corrects_37 : decode cL_corrects 37 = .ok (.lstore 5, 2) := by decide +kernel
theorem dL_corrects_39 : decode cL_corrects 39 = .ok (.aload_n 0, 1) := by decide +kernel
theorem dL_corrects_40 : decode cL_corrects 40 = .ok (.iload_n 2, 1) := by decide +kernel
theorem dL_corrects_41 : decode cL_corrects 41 = .ok (.iconst 0, 1) := by decide +kernel
theorem dL_corrects_42 : decode cL_corrects 42 = .ok (.invokestatic 125, 3) := by decide +kernel
theorem dL_corrects_45 : decode cL_corrects 45 = .ok (.istore 7, 2) := by decide +kernel
theorem dL_corrects_47 : decode cL_corrects 47 = .ok (.aload_n 0, 1) := by decide +kernel
theorem dL_corrects_48 : decode cL_corrects 48 = .ok (.iload_n 2, 1) := by decide +kernel
theorem dL_corrects_49 : decode cL_corrects 49 = .ok (.iconst 1, 1) := by decide +kernel
theorem dL_corrects_50 : decode cL_corrects 50 = .ok (.invokestatic 125, 3) := by decide +kernel
theorem dL_corrects_53 : decode cL_corrects 53 = .ok (.istore 8, 2) := by decide +kernel
theorem dL_corrects_55 : decode cL_corrects 55 = .ok (.aload_n 0, 1) := by decide +kernel
theorem dL_corrects_56 : decode cL_corrects 56 = .ok (.iload_n 2, 1) := by decide +kernel
theorem dL_corrects_57 : decode cL_corrects 57 = .ok (.iconst 2, 1) := by decide +kernel
theorem dL_corrects_58 : decode cL_corrects 58 = .ok (.invokestatic 125, 3) := by decide +kernel
theorem dL_corrects_61 : decode cL_corrects 61 = .ok (.istore 9, 2) := by decide +kernel
theorem dL_corrects_63 : decode cL_corrects 63 = .ok (.aload_n 0, 1) := by decide +kernel
theorem dL_corrects_64 : decode cL_corrects 64 = .ok (.iload_n 1, 1) := by decide +kernel
theorem dL_corrects_65 : decode cL_corrects 65 = .ok (.iload_n 2, 1) := by decide +kernel
theorem dL_corrects_66 : decode cL_corrects 66 = .ok (.iload_n 3, 1) := by decide +kernel
theorem dL_corrects_67 : decode cL_corrects 67 = .ok (.invokestatic 154, 3) := by decide +kernel
theorem dL_corrects_70 : decode cL_corrects 70 = .ok (.istore 10, 2) := by decide +kernel
theorem dL_corrects_72 : decode cL_corrects 72 = .ok (.aload_n 0, 1) := by decide +kernel
theorem dL_corrects_73 : decode cL_corrects 73 = .ok (.iload_n 2, 1) := by decide +kernel
theorem dL_corrects_74 : decode cL_corrects 74 = .ok (.iload_n 3, 1) := by decide +kernel
theorem dL_corrects_75 : decode cL_corrects 75 = .ok (.invokestatic 98, 3) := by decide +kernel
theorem dL_corrects_78 : decode cL_corrects 78 = .ok (.istore 11, 2) := by decide +kernel
theorem dL_corrects_80 : decode cL_corrects 80 = .ok (.aload_n 0, 1) := by decide +kernel
theorem dL_corrects_81 : decode cL_corrects 81 = .ok (.iconst 5, 1) := by decide +kernel
theorem dL_corrects_82 : decode cL_corrects 82 = .ok (.invokestatic 127, 3) := by decide +kernel
theorem dL_corrects_85 : decode cL_corrects 85 = .ok (.istore 12, 2) := by decide +kernel
theorem dL_corrects_87 : decode cL_corrects 87 = .ok (.iload 10, 2) := by decide +kernel
theorem dL_corrects_89 : decode cL_corrects 89 = .ok (.ifCond .ne 7, 3) := by decide +kernel
theorem dL_corrects_92 : decode cL_corrects 92 = .ok (.iconst 1, 1) := by decide +kernel
theorem dL_corrects_93 : decode cL_corrects 93 = .ok (.goto 4, 3) := by decide +kernel
theorem dL_corrects_96 : decode cL_corrects 96 = .ok (.iconst 0, 1) := by decide +kernel
theorem dL_corrects_97 : decode cL_corrects 97 = .ok (.aload_n 0, 1) := by decide +kernel
theorem dL_corrects_98 : decode cL_corrects 98 = .ok (.iload 11, 2) := by decide +kernel
theorem dL_corrects_100 : decode cL_corrects 100 = .ok (.iconst 2, 1) := by decide +kernel
theorem dL_corrects_101 : decode cL_corrects 101 = .ok (.invokestatic 129, 3) := by decide +kernel
theorem dL_corrects_104 : decode cL_corrects 104 = .ok (.iload_n 1, 1) := by decide +kernel
theorem dL_corrects_105 : decode cL_corrects 105 = .ok (.ishr, 1) := by decide +kernel
theorem dL_corrects_106 : decode cL_corrects 106 = .ok (.iconst 1, 1) := by decide +kernel
theorem dL_corrects_107 : decode cL_corrects 107 = .ok (.iand, 1) := by decide +kernel
theorem dL_corrects_108 : decode cL_corrects 108 = .ok (.iconst 1, 1) := by decide +kernel
theorem dL_corrects_109 : decode cL_corrects 109 = .ok (.if_icmp .ne 7, 3) := by decide +kernel
theorem dL_corrects_112 : decode cL_corrects 112 = .ok (.iconst 1, 1) := by decide +kernel
theorem dL_corrects_113 : decode cL_corrects 113 = .ok (.goto 4, 3) := by decide +kernel
theorem dL_corrects_116 : decode cL_corrects 116 = .ok (.iconst 0, 1) := by decide +kernel
theorem dL_corrects_117 : decode cL_corrects 117 = .ok (.if_icmp .ne 40, 3) := by decide +kernel
theorem dL_corrects_120 : decode cL_corrects 120 = .ok (.aload_n 0, 1) := by decide +kernel
theorem dL_corrects_121 : decode cL_corrects 121 = .ok (.iload 11, 2) := by decide +kernel
theorem dL_corrects_123 : decode cL_corrects 123 = .ok (.iload_n 1, 1) := by decide +kernel
theorem dL_corrects_124 : decode cL_corrects 124 = .ok (.invokestatic 103, 3) := by decide +kernel
theorem dL_corrects_127 : decode cL_corrects 127 = .ok (.iload 10, 2) := by decide +kernel
theorem dL_corrects_129 : decode cL_corrects 129 = .ok (.if_icmp .ne 28, 3) := by decide +kernel
theorem dL_corrects_132 : decode cL_corrects 132 = .ok (.aload_n 0, 1) := by decide +kernel
theorem dL_corrects_133 : decode cL_corrects 133 = .ok (.iconst 5, 1) := by decide +kernel
theorem dL_corrects_134 : decode cL_corrects 134 = .ok (.invokestatic 127, 3) := by decide +kernel
theorem dL_corrects_137 : decode cL_corrects 137 = .ok (.iload 12, 2) := by decide +kernel
theorem dL_corrects_139 : decode cL_corrects 139 = .ok (.iload 10, 2) := by decide +kernel
theorem dL_corrects_141 : decode cL_corrects 141 = .ok (.ifCond .le 7, 3) := by decide +kernel
theorem dL_corrects_144 : decode cL_corrects 144 = .ok (.iconst 1, 1) := by decide +kernel
theorem dL_corrects_145 : decode cL_corrects 145 = .ok (.goto 4, 3) := by decide +kernel
theorem dL_corrects_148 : decode cL_corrects 148 = .ok (.iconst 0, 1) := by decide +kernel
theorem dL_corrects_149 : decode cL_corrects 149 = .ok (.iadd, 1) := by decide +kernel
theorem dL_corrects_150 : decode cL_corrects 150 = .ok (.if_icmp .ne 7, 3) := by decide +kernel
theorem dL_corrects_153 : decode cL_corrects 153 = .ok (.iconst 1, 1) := by decide +kernel
theorem dL_corrects_154 : decode cL_corrects 154 = .ok (.goto 4, 3) := by decide +kernel
theorem dL_corrects_157 : decode cL_corrects 157 = .ok (.iconst 0, 1) := by decide +kernel
theorem dL_corrects_158 : decode cL_corrects 158 = .ok (.istore 13, 2) := by decide +kernel
theorem dL_corrects_160 : decode cL_corrects 160 = .ok (.bipush 100, 2) := by decide +kernel
theorem dL_corrects_162 : decode cL_corrects 162 = .ok (.iload 7, 2) := by decide +kernel
theorem dL_corrects_164 : decode cL_corrects 164 = .ok (.imul, 1) := by decide +kernel
theorem dL_corrects_165 : decode cL_corrects 165 = .ok (.bipush 10, 2) := by decide +kernel
theorem dL_corrects_167 : decode cL_corrects 167 = .ok (.iload 8, 2) := by decide +kernel
theorem dL_corrects_169 : decode cL_corrects 169 = .ok (.imul, 1) := by decide +kernel
theorem dL_corrects_170 : decode cL_corrects 170 = .ok (.iadd, 1) := by decide +kernel
theorem dL_corrects_171 : decode cL_corrects 171 = .ok (.iload 9, 2) := by decide +kernel
theorem dL_corrects_173 : decode cL_corrects 173 = .ok (.iadd, 1) := by decide +kernel
theorem dL_corrects_174 : decode cL_corrects 174 = .ok (.bipush 100, 2) := by decide +kernel
theorem dL_corrects_176 : decode cL_corrects 176 = .ok (.aload_n 0, 1) := by decide +kernel
theorem dL_corrects_177 : decode cL_corrects 177 = .ok (.iload_n 2, 1) := by decide +kernel
theorem dL_corrects_178 : decode cL_corrects 178 = .ok (.iconst 0, 1) := by decide +kernel
theorem dL_corrects_179 : decode cL_corrects 179 = .ok (.invokestatic 125, 3) := by decide +kernel
theorem dL_corrects_182 : decode cL_corrects 182 = .ok (.imul, 1) := by decide +kernel
theorem dL_corrects_183 : decode cL_corrects 183 = .ok (.bipush 10, 2) := by decide +kernel
theorem dL_corrects_185 : decode cL_corrects 185 = .ok (.aload_n 0, 1) := by decide +kernel
theorem dL_corrects_186 : decode cL_corrects 186 = .ok (.iload_n 2, 1) := by decide +kernel
theorem dL_corrects_187 : decode cL_corrects 187 = .ok (.iconst 1, 1) := by decide +kernel
theorem dL_corrects_188 : decode cL_corrects 188 = .ok (.invokestatic 125, 3) := by decide +kernel
theorem dL_corrects_191 : decode cL_corrects 191 = .ok (.imul, 1) := by decide +kernel
theorem dL_corrects_192 : decode cL_corrects 192 = .ok (.iadd, 1) := by decide +kernel
theorem dL_corrects_193 : decode cL_corrects 193 = .ok (.aload_n 0, 1) := by decide +kernel
theorem dL_corrects_194 : decode cL_corrects 194 = .ok (.iload_n 2, 1) := by decide +kernel
theorem dL_corrects_195 : decode cL_corrects 195 = .ok (.iconst 2, 1) := by decide +kernel
theorem dL_corrects_196 : decode cL_corrects 196 = .ok (.invokestatic 125, 3) := by decide +kernel
theorem dL_corrects_199 : decode cL_corrects 199 = .ok (.iadd, 1) := by decide +kernel
theorem dL_corrects_200 : decode cL_corrects 200 = .ok (.invokestatic 122, 3) := by decide +kernel
theorem dL_corrects_203 : decode cL_corrects 203 = .ok (.istore 14, 2) := by decide +kernel
theorem dL_corrects_205 : decode cL_corrects 205 = .ok (.iload 13, 2) := by decide +kernel
theorem dL_corrects_207 : decode cL_corrects 207 = .ok (.ifCond .eq 45, 3) := by decide +kernel
theorem dL_corrects_210 : decode cL_corrects 210 = .ok (.iload 10, 2) := by decide +kernel
theorem dL_corrects_212 : decode cL_corrects 212 = .ok (.ifCond .ge 11, 3) := by decide +kernel
theorem dL_corrects_215 : decode cL_corrects 215 = .ok (.iload 14, 2) := by decide +kernel
theorem dL_corrects_217 : decode cL_corrects 217 = .ok (.ifCond .ne 35, 3) := by decide +kernel
theorem dL_corrects_220 : decode cL_corrects 220 = .ok (.goto 21, 3) := by decide +kernel
theorem dL_corrects_223 : decode cL_corrects 223 = .ok (.iload 14, 2) := by decide +kernel
theorem dL_corrects_225 : decode cL_corrects 225 = .ok (.iload 10, 2) := by decide +kernel
theorem dL_corrects_227 : decode cL_corrects 227 = .ok (.if_icmp .ne 25, 3) := by decide +kernel
theorem dL_corrects_230 : decode cL_corrects 230 = .ok (.aload_n 0, 1) := by decide +kernel
theorem dL_corrects_231 : decode cL_corrects 231 = .ok (.iload_n 1, 1) := by decide +kernel
theorem dL_corrects_232 : decode cL_corrects 232 = .ok (.iload_n 2, 1) := by decide +kernel
theorem dL_corrects_233 : decode cL_corrects 233 = .ok (.iload_n 3, 1) := by decide +kernel
theorem dL_corrects_234 : decode cL_corrects 234 = .ok (.invokestatic 118, 3) := by decide +kernel
theorem dL_corrects_237 : decode cL_corrects 237 = .ok (.iconst 1, 1) := by decide +kernel
theorem dL_corrects_238 : decode cL_corrects 238 = .ok (.if_icmp .ne 14, 3) := by decide +kernel
theorem dL_corrects_241 : decode cL_corrects 241 = .ok (.aload_n 0, 1) := by decide +kernel
theorem dL_corrects_242 : decode cL_corrects 242 = .ok (.invokestatic 152, 3) := by decide +kernel
theorem dL_corrects_245 : decode cL_corrects 245 = .ok (.ifCond .lt 7, 3) := by decide +kernel
theorem dL_corrects_248 : decode cL_corrects 248 = .ok (.iconst 1, 1) := by decide +kernel
theorem dL_corrects_249 : decode cL_corrects 249 = .ok (.goto 4, 3) := by decide +kernel
theorem dL_corrects_252 : decode cL_corrects 252 = .ok (.iconst 0, 1) := by decide +kernel
theorem dL_corrects_253 : decode cL_corrects 253 = .ok (.istore 13, 2) := by decide +kernel
theorem dL_corrects_255 : decode cL_corrects 255 = .ok (.iload 13, 2) := by decide +kernel
theorem dL_corrects_257 : decode cL_corrects 257 = .ok (.ifCond .eq 58, 3) := by decide +kernel
theorem dL_corrects_260 : decode cL_corrects 260 = .ok (.aload_n 0, 1) := by decide +kernel
theorem dL_corrects_261 : decode cL_corrects 261 = .ok (.iload_n 2, 1) := by decide +kernel
theorem dL_corrects_262 : decode cL_corrects 262 = .ok (.iconst 0, 1) := by decide +kernel
theorem dL_corrects_263 : decode cL_corrects 263 = .ok (.iload 4, 2) := by decide +kernel
theorem dL_corrects_265 : decode cL_corrects 265 = .ok (.bipush 100, 2) := by decide +kernel
theorem dL_corrects_267 : decode cL_corrects 267 = .ok (.idiv, 1) := by decide +kernel
theorem dL_corrects_268 : decode cL_corrects 268 = .ok (.invokestatic 114, 3) := by decide +kernel
theorem dL_corrects_271 : decode cL_corrects 271 = .ok (.iload 7, 2) := by decide +kernel
theorem dL_corrects_273 : decode cL_corrects 273 = .ok (.if_icmp .ne 42, 3) := by decide +kernel
theorem dL_corrects_276 : decode cL_corrects 276 = .ok (.aload_n 0, 1) := by decide +kernel
theorem dL_corrects_277 : decode cL_corrects 277 = .ok (.iload_n 2, 1) := by decide +kernel
theorem dL_corrects_278 : decode cL_corrects 278 = .ok (.iconst 1, 1) := by decide +kernel
theorem dL_corrects_279 : decode cL_corrects 279 = .ok (.iload 4, 2) := by decide +kernel
theorem dL_corrects_281 : decode cL_corrects 281 = .ok (.bipush 10, 2) := by decide +kernel
theorem dL_corrects_283 : decode cL_corrects 283 = .ok (.idiv, 1) := by decide +kernel
theorem dL_corrects_284 : decode cL_corrects 284 = .ok (.bipush 10, 2) := by decide +kernel
theorem dL_corrects_286 : decode cL_corrects 286 = .ok (.irem, 1) := by decide +kernel
theorem dL_corrects_287 : decode cL_corrects 287 = .ok (.invokestatic 114, 3) := by decide +kernel
theorem dL_corrects_290 : decode cL_corrects 290 = .ok (.iload 8, 2) := by decide +kernel
theorem dL_corrects_292 : decode cL_corrects 292 = .ok (.if_icmp .ne 23, 3) := by decide +kernel
theorem dL_corrects_295 : decode cL_corrects 295 = .ok (.aload_n 0, 1) := by decide +kernel
theorem dL_corrects_296 : decode cL_corrects 296 = .ok (.iload_n 2, 1) := by decide +kernel
theorem dL_corrects_297 : decode cL_corrects 297 = .ok (.iconst 2, 1) := by decide +kernel
theorem dL_corrects_298 : decode cL_corrects 298 = .ok (.iload 4, 2) := by decide +kernel
theorem dL_corrects_300 : decode cL_corrects 300 = .ok (.bipush 10, 2) := by decide +kernel
theorem dL_corrects_302 : decode cL_corrects 302 = .ok (.irem, 1) := by decide +kernel
theorem dL_corrects_303 : decode cL_corrects 303 = .ok (.invokestatic 114, 3) := by decide +kernel
theorem dL_corrects_306 : decode cL_corrects 306 = .ok (.iload 9, 2) := by decide +kernel
theorem dL_corrects_308 : decode cL_corrects 308 = .ok (.if_icmp .ne 7, 3) := by decide +kernel
theorem dL_corrects_311 : decode cL_corrects 311 = .ok (.iconst 1, 1) := by decide +kernel
theorem dL_corrects_312 : decode cL_corrects 312 = .ok (.goto 4, 3) := by decide +kernel
theorem dL_corrects_315 : decode cL_corrects 315 = .ok (.iconst 0, 1) := by decide +kernel
theorem dL_corrects_316 : decode cL_corrects 316 = .ok (.istore 13, 2) := by decide +kernel
theorem dL_corrects_318 : decode cL_corrects 318 = .ok (.bipush 100, 2) := by decide +kernel
theorem dL_corrects_320 : decode cL_corrects 320 = .ok (.iload 7, 2) := by decide +kernel
theorem dL_corrects_322 : decode cL_corrects 322 = .ok (.imul, 1) := by decide +kernel
theorem dL_corrects_323 : decode cL_corrects 323 = .ok (.bipush 10, 2) := by decide +kernel
theorem dL_corrects_325 : decode cL_corrects 325 = .ok (.iload 8, 2) := by decide +kernel
theorem dL_corrects_327 : decode cL_corrects 327 = .ok (.imul, 1) := by decide +kernel
theorem dL_corrects_328 : decode cL_corrects 328 = .ok (.iadd, 1) := by decide +kernel
theorem dL_corrects_329 : decode cL_corrects 329 = .ok (.iload 9, 2) := by decide +kernel
theorem dL_corrects_331 : decode cL_corrects 331 = .ok (.iadd, 1) := by decide +kernel
theorem dL_corrects_332 : decode cL_corrects 332 = .ok (.iload 4, 2) := by decide +kernel
theorem dL_corrects_334 : decode cL_corrects 334 = .ok (.invokestatic 122, 3) := by decide +kernel
theorem dL_corrects_337 : decode cL_corrects 337 = .ok (.istore 15, 2) := by decide +kernel
theorem dL_corrects_339 : decode cL_corrects 339 = .ok (.iload 13, 2) := by decide +kernel
theorem dL_corrects_341 : decode cL_corrects 341 = .ok (.ifCond .eq 29, 3) := by decide +kernel
theorem dL_corrects_344 : decode cL_corrects 344 = .ok (.aload_n 0, 1) := by decide +kernel
theorem dL_corrects_345 : decode cL_corrects 345 = .ok (.iload_n 1, 1) := by decide +kernel
theorem dL_corrects_346 : decode cL_corrects 346 = .ok (.iload_n 2, 1) := by decide +kernel
theorem dL_corrects_347 : decode cL_corrects 347 = .ok (.iload_n 3, 1) := by decide +kernel
theorem dL_corrects_348 : decode cL_corrects 348 = .ok (.invokestatic 118, 3) := by decide +kernel
theorem dL_corrects_351 : decode cL_corrects 351 = .ok (.ifCond .eq 15, 3) := by decide +kernel
theorem dL_corrects_354 : decode cL_corrects 354 = .ok (.iload 10, 2) := by decide +kernel
theorem dL_corrects_356 : decode cL_corrects 356 = .ok (.ifCond .lt 14, 3) := by decide +kernel
theorem dL_corrects_359 : decode cL_corrects 359 = .ok (.iload 15, 2) := by decide +kernel
theorem dL_corrects_361 : decode cL_corrects 361 = .ok (.iload 10, 2) := by decide +kernel
theorem dL_corrects_363 : decode cL_corrects 363 = .ok (.if_icmp .lt 7, 3) := by decide +kernel
theorem dL_corrects_366 : decode cL_corrects 366 = .ok (.iconst 1, 1) := by decide +kernel
theorem dL_corrects_367 : decode cL_corrects 367 = .ok (.goto 4, 3) := by decide +kernel
theorem dL_corrects_370 : decode cL_corrects 370 = .ok (.iconst 0, 1) := by decide +kernel
theorem dL_corrects_371 : decode cL_corrects 371 = .ok (.istore 13, 2) := by decide +kernel
theorem dL_corrects_373 : decode cL_corrects 373 = .ok (.iload 13, 2) := by decide +kernel
theorem dL_corrects_375 : decode cL_corrects 375 = .ok (.ifCond .eq 45, 3) := by decide +kernel
theorem dL_corrects_378 : decode cL_corrects 378 = .ok (.aload_n 0, 1) := by decide +kernel
theorem dL_corrects_379 : decode cL_corrects 379 = .ok (.invokestatic 152, 3) := by decide +kernel
theorem dL_corrects_382 : decode cL_corrects 382 = .ok (.ifCond .lt 38, 3) := by decide +kernel
theorem dL_corrects_385 : decode cL_corrects 385 = .ok (.aload_n 0, 1) := by decide +kernel
theorem dL_corrects_386 : decode cL_corrects 386 = .ok (.invokestatic 152, 3) := by decide +kernel
theorem dL_corrects_389 : decode cL_corrects 389 = .ok (.ifCond .lt 31, 3) := by decide +kernel
theorem dL_corrects_392 : decode cL_corrects 392 = .ok (.aload_n 0, 1) := by decide +kernel
theorem dL_corrects_393 : decode cL_corrects 393 = .ok (.invokestatic 152, 3) := by decide +kernel
theorem dL_corrects_396 : decode cL_corrects 396 = .ok (.ifCond .lt 24, 3) := by decide +kernel
theorem dL_corrects_399 : decode cL_corrects 399 = .ok (.aload_n 0, 1) := by decide +kernel
theorem dL_corrects_400 : decode cL_corrects 400 = .ok (.invokestatic 152, 3) := by decide +kernel
theorem dL_corrects_403 : decode cL_corrects 403 = .ok (.ifCond .lt 17, 3) := by decide +kernel
theorem dL_corrects_406 : decode cL_corrects 406 = .ok (.aload_n 0, 1) := by decide +kernel
theorem dL_corrects_407 : decode cL_corrects 407 = .ok (.invokestatic 146, 3) := by decide +kernel
theorem dL_corrects_410 : decode cL_corrects 410 = .ok (.lload 5, 2) := by decide +kernel
theorem dL_corrects_412 : decode cL_corrects 412 = .ok (.lcmp, 1) := by decide +kernel
theorem dL_corrects_413 : decode cL_corrects 413 = .ok (.ifCond .ne 7, 3) := by decide +kernel
theorem dL_corrects_416 : decode cL_corrects 416 = .ok (.iconst 1, 1) := by decide +kernel
theorem dL_corrects_417 : decode cL_corrects 417 = .ok (.goto 4, 3) := by decide +kernel
theorem dL_corrects_420 : decode cL_corrects 420 = .ok (.iconst 0, 1) := by decide +kernel
theorem dL_corrects_421 : decode cL_corrects 421 = .ok (.ireturn, 1) := by decide +kernel
set_option maxRecDepth 20000 in
theorem ggL_law_X5_init : GoodIn wsL_law wsX5_init := goodIn_r _ [5, 6, 7, 8, 9, 10, 11, 12, 13, 14, 15, 16, 17, 18, 19, 20, 21, 22, 23, 24, 25, 26, 27, 28, 29, 30, 31, 32, 33, 34, 35, 36, 37, 38, 39, 40, 41, 42, 43, 44, 45, 46, 47, 48, 49, 50, 51, 52, 53, 54, 55, 56, 57, 457, 458, 459, 460, 461, 462, 463, 464, 465, 466, 453, 454, 455, 456, 467, 468, 469, 470, 471, 472, 473, 474, 475, 476] (by decide +kernel) (by decide +kernel)
set_option maxRecDepth 20000 in
theorem gL_law_X5_init : GoodIn wsL_law (wsX5_init) := ggL_law_X5_init
set_option maxRecDepth 20000 in
theorem ggL_law_L_hangs : GoodIn wsL_law wsL_hangs := goodIn_ca (goodIn_ca (goodIn_r _ [61, 29, 62, 63, 64, 60, 65, 66, 67, 68, 69, 70, 71, 72, 2, 73, 74, 75, 12, 76, 77, 78, 79, 80, 81, 82, 83, 11, 84, 30, 85, 86, 87, 88, 33, 32, 89, 90, 91, 92, 93, 94, 95, 96, 97, 98, 99, 100, 101, 102, 103, 31, 104, 105, 106, 107, 34, 108, 109, 110, 111, 112, 35, 36, 113, 114, 115, 116, 117, 118, 119, 120, 121, 122, 123, 124, 125, 126, 127, 128, 129, 130, 131, 132, 133, 134, 135, 136, 137, 138, 139, 140, 141, 142, 143, 144, 145, 146, 147, 148, 149, 150, 151, 152, 153, 154, 155, 156, 157, 158, 159, 160, 161, 162, 16, 163, 164, 165, 166, 167, 168, 169, 170, 171, 172, 173, 174, 175, 176, 177, 178, 179, 180, 181, 182, 183, 184, 185, 186, 187, 188, 189, 190, 191, 192, 193, 194, 195, 196, 197, 198, 199, 200, 201, 202, 203, 204, 205, 206, 207, 208, 209, 210, 211, 212, 213, 214, 215, 216, 217, 453, 454, 455, 456, 457, 458, 459, 460, 461, 462, 463, 464, 465, 466, 467, 468, 469, 470] (by decide +kernel) (by decide +kernel)) (goodIn_sub (fun _ h => List.mem_append_left _ (List.mem_append_left _ (List.mem_append_right _ h))) (by decide +kernel))) (goodIn_sub (fun _ h => List.mem_append_left _ (List.mem_append_right _ h)) (by decide +kernel))
set_option maxRecDepth 20000 in
theorem gL_law_L_hangs : GoodIn wsL_law (va_wsS RL 157 yL_hangs wsL_hangs) := goodIn_app (goodIn_of _ (by decide +kernel)) ggL_law_L_hangs
set_option maxRecDepth 20000 in
theorem ggL_law_L_labels : GoodIn wsL_law wsL_labels := goodIn_ca (goodIn_ca (goodIn_ca (goodIn_r _ [220, 221, 222, 60, 223, 224, 225, 156, 157, 158, 67, 68, 159, 160, 161, 2, 162, 74, 75, 12, 16, 163, 164, 165, 11, 166, 31, 167, 168, 169, 170, 171, 172, 173, 174, 175, 176, 177, 178, 179, 180, 181, 152, 153, 154, 155, 34, 30, 85, 86, 87, 88, 33, 32, 89, 90, 91, 92, 93, 94, 95, 96, 97, 98, 99, 182, 183, 184, 185, 186, 101, 102, 103, 104, 105, 106, 107, 135, 136, 137, 66, 69, 138, 139, 140, 141, 120, 121, 122, 79, 80, 142, 143, 144, 145, 146, 147, 148, 149, 150, 151, 63, 64, 65, 70, 71, 72, 73, 76, 77, 78, 81, 82, 83, 84, 100, 108, 109, 110, 111, 112, 35, 36, 187, 188, 189, 190, 191, 192, 193, 194, 195, 196, 197, 198, 199, 200, 201, 226, 227, 228, 229, 230, 231, 232, 24, 233, 234, 235, 23, 236, 54, 237, 238, 239, 240, 241, 55, 56, 242, 243, 244, 245, 246, 247, 248, 249, 250, 251, 252, 57, 253, 254, 255, 256, 257, 258, 259, 260, 261, 262, 263, 264, 265, 15, 266, 267, 45, 268, 269, 270, 271, 272, 273, 274, 275, 276, 277, 278, 279, 280, 281, 282, 283, 284, 285, 286, 287, 288, 113, 114, 115, 116, 117, 118, 119, 123, 289, 290, 291, 292, 293, 294, 295, 296, 297, 298, 299, 300, 301, 302, 453, 454, 455, 456, 457, 458, 459, 460, 461, 462, 463, 464, 465, 466, 467, 468, 469, 470, 473, 474, 475, 476] (by decide +kernel) (by decide +kernel)) (goodIn_sub (fun _ h => List.mem_append_left _ (List.mem_append_left _ (List.mem_append_right _ h))) (by decide +kernel))) (goodIn_sub (fun _ h => List.mem_append_left _ (List.mem_append_right _ h)) (by decide +kernel))) (goodIn_sub (fun _ h => List.mem_append_right _ h) (by decide +kernel))
set_option maxRecDepth 20000 in
theorem gL_law_L_labels : GoodIn wsL_law (va_wsS RL 161 yL_labels wsL_labels) := goodIn_app (goodIn_of _ (by decide +kernel)) ggL_law_L_labels
set_option maxRecDepth 20000 in
theorem ggL_law_L_at : GoodIn wsL_law wsL_at := goodIn_r _ [305, 306, 307] (by decide +kernel) (by decide +kernel)
set_option maxRecDepth 20000 in
theorem gL_law_L_at : GoodIn wsL_law (va_wsS RL 165 yL_at wsL_at) := goodIn_app (goodIn_of _ (by decide +kernel)) ggL_law_L_at
set_option maxRecDepth 20000 in
theorem ggL_law_L_count : GoodIn wsL_law wsL_count := goodIn_ca (goodIn_r _ [158, 67, 68, 159, 160, 161, 2, 162, 74, 75, 12, 16, 163, 164, 165, 11, 166, 31, 167, 168, 169, 170, 171, 172, 173, 174, 175, 176, 177, 178, 179, 180, 181, 152, 153, 154, 155, 34, 30, 85, 86, 87, 88, 33, 32, 89, 90, 91, 92, 93, 94, 95, 96, 97, 98, 99, 182, 183, 184, 185, 186, 101, 102, 103, 104, 105, 106, 107, 453, 454, 455, 456, 457, 458, 459, 460, 461, 462, 463, 464, 465, 466, 467, 468, 469, 470] (by decide +kernel) (by decide +kernel)) (goodIn_sub (fun _ h => List.mem_append_left _ (List.mem_append_left _ (List.mem_append_right _ h))) (by decide +kernel))
set_option maxRecDepth 20000 in
theorem gL_law_L_count : GoodIn wsL_law (va_wsS RL 127 yL_count wsL_count) := goodIn_app (goodIn_of _ (by decide +kernel)) ggL_law_L_count
set_option maxRecDepth 20000 in
theorem ggL_law_L_print : GoodIn wsL_law wsL_print := goodIn_ca (goodIn_ca (goodIn_r _ [223, 224, 225, 156, 157, 60, 158, 67, 68, 159, 160, 161, 2, 162, 74, 75, 12, 16, 163, 164, 165, 11, 166, 31, 167, 168, 169, 170, 171, 172, 173, 174, 175, 176, 177, 178, 179, 180, 181, 152, 153, 154, 155, 34, 30, 85, 86, 87, 88, 33, 32, 89, 90, 91, 92, 93, 94, 95, 96, 97, 98, 99, 182, 183, 184, 185, 186, 101, 102, 103, 104, 105, 106, 107, 135, 136, 137, 66, 69, 138, 139, 140, 141, 120, 121, 122, 79, 80, 142, 143, 144, 145, 146, 147, 148, 149, 150, 151, 63, 64, 65, 70, 71, 72, 73, 76, 77, 78, 81, 82, 83, 84, 100, 108, 109, 110, 111, 112, 35, 36, 187, 188, 189, 190, 191, 192, 193, 194, 195, 196, 197, 198, 199, 200, 201, 453, 454, 455, 456, 457, 458, 459, 460, 461, 462, 463, 464, 465, 466, 467, 468, 469, 470] (by decide +kernel) (by decide +kernel)) (goodIn_sub (fun _ h => List.mem_append_left _ (List.mem_append_left _ (List.mem_append_right _ h))) (by decide +kernel))) (goodIn_sub (fun _ h => List.mem_append_left _ (List.mem_append_right _ h)) (by decide +kernel))
set_option maxRecDepth 20000 in
theorem gL_law_L_print : GoodIn wsL_law (va_wsS RL 146 yL_print wsL_print) := goodIn_app (goodIn_of _ (by decide +kernel)) ggL_law_L_print
set_option maxRecDepth 20000 in
theorem ggL_law_L_low : GoodIn wsL_law wsL_low := goodIn_r _ [310, 311] (by decide +kernel) (by decide +kernel)
set_option maxRecDepth 20000 in
theorem gL_law_L_low : GoodIn wsL_law (va_wsS RL 84 yL_low wsL_low) := goodIn_app (goodIn_of _ (by decide +kernel)) ggL_law_L_low
set_option maxRecDepth 20000 in
theorem ggL_law_L_act : GoodIn wsL_law wsL_act := goodIn_ca (goodIn_ca (goodIn_ca (goodIn_r _ [314, 308, 309, 60, 310, 311, 315, 316, 317, 2, 318, 20, 319, 320, 321, 19, 322, 323, 324, 325, 326, 67, 292, 68, 69, 327, 328, 329, 330, 297, 298, 142, 143, 144, 74, 75, 331, 332, 333, 334, 335, 336, 337, 338, 50, 339, 340, 341, 342, 343, 344, 345, 16, 12, 346, 347, 348, 349, 350, 351, 352, 353, 354, 355, 356, 263, 264, 265, 15, 266, 267, 45, 268, 269, 270, 271, 272, 273, 274, 11, 275, 30, 276, 277, 278, 279, 31, 32, 33, 34, 35, 36, 112, 280, 281, 357, 358, 359, 360, 81, 82, 83, 84, 85, 86, 87, 88, 89, 90, 91, 92, 93, 94, 95, 96, 97, 98, 99, 361, 362, 363, 66, 364, 365, 366, 367, 120, 121, 122, 79, 80, 368, 369, 370, 371, 372, 373, 374, 375, 376, 377, 378, 379, 380, 381, 194, 195, 196, 197, 198, 199, 200, 201, 152, 153, 154, 155, 382, 172, 173, 174, 175, 176, 177, 383, 384, 385, 386, 387, 388, 389, 390, 391, 392, 393, 76, 77, 78, 394, 395, 396, 397, 398, 399, 400, 401, 402, 403, 404, 405, 256, 257, 258, 259, 260, 261, 262, 282, 283, 284, 285, 104, 105, 106, 107, 286, 287, 288, 167, 168, 169, 170, 171, 406, 407, 408, 409, 410, 411, 412, 413, 414, 415, 416, 417, 418, 419, 420, 421, 422, 423, 424, 425, 426, 427, 428, 429, 430, 431, 432, 433, 145, 146, 147, 434, 435, 436, 437, 453, 454, 455, 456, 471, 472, 457, 458, 459, 460, 461, 462, 463, 464, 465, 466, 467, 468, 469, 470] (by decide +kernel) (by decide +kernel)) (goodIn_sub (fun _ h => List.mem_append_right _ h) (by decide +kernel))) (goodIn_sub (fun _ h => List.mem_append_left _ (List.mem_append_left _ (List.mem_append_right _ h))) (by decide +kernel))) (goodIn_sub (fun _ h => List.mem_append_left _ (List.mem_append_right _ h)) (by decide +kernel))
set_option maxRecDepth 20000 in
theorem gL_law_L_act : GoodIn wsL_law (va_wsS RL 169 yL_act wsL_act) := goodIn_app (goodIn_of _ (by decide +kernel)) ggL_law_L_act
set_option maxRecDepth 20000 in
theorem ggL_law_L_undo : GoodIn wsL_law wsL_undo := goodIn_ca (goodIn_r _ [291, 292, 68, 293, 294, 295, 2, 296, 297, 298, 16, 12, 299, 300, 301, 15, 302, 267, 45, 272, 273, 274, 11, 275, 30, 276, 277, 278, 279, 31, 32, 33, 34, 35, 36, 112, 280, 281, 453, 454, 455, 456, 467, 468, 469, 470, 457, 458, 459, 460, 461, 462, 463, 464, 465, 466] (by decide +kernel) (by decide +kernel)) (goodIn_sub (fun _ h => List.mem_append_right _ h) (by decide +kernel))
set_option maxRecDepth 20000 in
theorem gL_law_L_undo : GoodIn wsL_law (va_wsS RL 152 yL_undo wsL_undo) := goodIn_app (goodIn_of _ (by decide +kernel)) ggL_law_L_undo
set_option maxRecDepth 20000 in
theorem ggL_law_L_borrows : GoodIn wsL_law wsL_borrows := goodIn_ca (goodIn_ca (goodIn_ca (goodIn_r _ [440, 221, 222, 60, 223, 224, 225, 156, 157, 158, 67, 68, 159, 160, 161, 2, 162, 74, 75, 12, 16, 163, 164, 165, 11, 166, 31, 167, 168, 169, 170, 171, 172, 173, 174, 175, 176, 177, 178, 179, 180, 181, 152, 153, 154, 155, 34, 30, 85, 86, 87, 88, 33, 32, 89, 90, 91, 92, 93, 94, 95, 96, 97, 98, 99, 182, 183, 184, 185, 186, 101, 102, 103, 104, 105, 106, 107, 135, 136, 137, 66, 69, 138, 139, 140, 141, 120, 121, 122, 79, 80, 142, 143, 144, 145, 146, 147, 148, 149, 150, 151, 63, 64, 65, 70, 71, 72, 73, 76, 77, 78, 81, 82, 83, 84, 100, 108, 109, 110, 111, 112, 35, 36, 187, 188, 189, 190, 191, 192, 193, 194, 195, 196, 197, 198, 199, 200, 201, 202, 203, 204, 205, 206, 207, 208, 413, 414, 415, 416, 417, 418, 419, 263, 264, 265, 15, 266, 267, 45, 268, 269, 270, 271, 272, 273, 274, 275, 276, 277, 278, 279, 280, 281, 289, 290, 291, 292, 293, 294, 295, 296, 297, 298, 299, 300, 301, 302, 453, 454, 455, 456, 457, 458, 459, 460, 461, 462, 463, 464, 465, 466, 467, 468, 469, 470] (by decide +kernel) (by decide +kernel)) (goodIn_sub (fun _ h => List.mem_append_left _ (List.mem_append_left _ (List.mem_append_right _ h))) (by decide +kernel))) (goodIn_sub (fun _ h => List.mem_append_left _ (List.mem_append_right _ h)) (by decide +kernel))) (goodIn_sub (fun _ h => List.mem_append_right _ h) (by decide +kernel))
set_option maxRecDepth 20000 in
theorem gL_law_L_borrows : GoodIn wsL_law (va_wsS RL 172 yL_borrows wsL_borrows) := goodIn_app (goodIn_of _ (by decide +kernel)) ggL_law_L_borrows
set_option maxRecDepth 20000 in
theorem ggL_law_L_corrects : GoodIn wsL_law wsL_corrects := goodIn_ca (goodIn_ca (goodIn_ca (goodIn_r _ [443, 156, 157, 60, 158, 67, 68, 159, 160, 161, 2, 162, 74, 75, 12, 16, 163, 164, 165, 11, 166, 31, 167, 168, 169, 170, 171, 172, 173, 174, 175, 176, 177, 178, 179, 180, 181, 152, 153, 154, 155, 34, 30, 85, 86, 87, 88, 33, 32, 89, 90, 91, 92, 93, 94, 95, 96, 97, 98, 99, 182, 183, 184, 185, 186, 101, 102, 103, 104, 105, 106, 107, 361, 362, 363, 66, 69, 364, 365, 366, 367, 120, 121, 122, 79, 80, 368, 369, 370, 263, 264, 265, 15, 266, 267, 45, 268, 269, 270, 271, 272, 273, 274, 275, 276, 277, 278, 279, 35, 36, 112, 280, 281, 371, 372, 373, 374, 289, 290, 291, 292, 293, 294, 295, 296, 297, 298, 299, 300, 301, 302, 221, 222, 223, 224, 225, 135, 136, 137, 138, 139, 140, 141, 142, 143, 144, 145, 146, 147, 148, 149, 150, 151, 63, 64, 65, 70, 71, 72, 73, 76, 77, 78, 81, 82, 83, 84, 100, 108, 109, 110, 111, 187, 188, 189, 190, 191, 192, 193, 194, 195, 196, 197, 198, 199, 200, 201, 444, 445, 446, 447, 448, 449, 450, 451, 399, 400, 401, 402, 403, 404, 405, 452, 387, 388, 389, 390, 391, 392, 393, 394, 395, 396, 397, 398, 132, 133, 134, 113, 114, 115, 116, 117, 118, 119, 123, 427, 428, 429, 430, 431, 432, 433, 434, 435, 436, 437, 453, 454, 455, 456, 457, 458, 459, 460, 461, 462, 463, 464, 465, 466, 467, 468, 469, 470] (by decide +kernel) (by decide +kernel)) (goodIn_sub (fun _ h => List.mem_append_left _ (List.mem_append_left _ (List.mem_append_right _ h))) (by decide +kernel))) (goodIn_sub (fun _ h => List.mem_append_left _ (List.mem_append_right _ h)) (by decide +kernel))) (goodIn_sub (fun _ h => List.mem_append_right _ h) (by decide +kernel))
set_option maxRecDepth 20000 in
theorem gL_law_L_corrects : GoodIn wsL_law (va_wsS RL 176 yL_corrects wsL_corrects) := goodIn_app (goodIn_of _ (by decide +kernel)) ggL_law_L_corrects
theorem dL_law_0 : decode cL_law 0 = .ok (.new 11, 3) := by decide +kernel
theorem dL_law_3 : decode cL_law 3 = .ok (.dup, 1) := by decide +kernel
theorem dL_law_4 : decode cL_law 4 = .ok (.invokespecial 156, 3) := by decide +kernel
theorem dL_law_7 : decode cL_law 7 = .ok (.astore_n 1, 1) := by decide +kernel
theorem dL_law_8 : decode cL_law 8 = .ok (.aload_n 1, 1) := by decide +kernel
theorem dL_law_9 : decode cL_law 9 = .ok (.invokestatic 157, 3) := by decide +kernel
theorem dL_law_12 : decode cL_law 12 = .ok (.ifCond .eq 15, 3) := by decide +kernel
theorem dL_law_15 : decode cL_law 15 = .ok (.aload_n 1, 1) := by decide +kernel
theorem dL_law_16 : decode cL_law 16 = .ok (.iconst 0, 1) := by decide +kernel
theorem dL_law_17 : decode cL_law 17 = .ok (.invokestatic 161, 3) := by decide +kernel
theorem dL_law_20 : decode cL_law 20 = .ok (.ifCond .eq 7, 3) := by decide +kernel
theorem dL_law_23 : decode cL_law 23 = .ok (.iconst 1, 1) := by decide +kernel
theorem dL_law_24 : decode cL_law 24 = .ok (.goto 4, 3) := by decide +kernel
theorem dL_law_27 : decode cL_law 27 = .ok (.iconst 0, 1) := by decide +kernel
theorem dL_law_28 : decode cL_law 28 = .ok (.istore_n 2, 1) := by decide +kernel
theorem dL_law_29 : decode cL_law 29 = .ok (.iconst 0, 1) := by decide +kernel
theorem dL_law_30 : decode cL_law 30 = .ok (.istore_n 3, 1) := by decide +kernel
theorem dL_law_31 : decode cL_law 31 = .ok (.iload_n 3, 1) := by decide +kernel
theorem dL_law_32 : decode cL_law 32 = .ok (.bipush 40, 2) := by decide +kernel
theorem dL_law_34 : decode cL_law 34 = .ok (.if_icmp .ge 329, 3) := by decide +kernel
theorem dL_law_37 : decode cL_law 37 = .ok (.iload_n 2, 1) := by decide +kernel
theorem dL_law_38 : decode cL_law 38 = .ok (.ifCond .eq 325, 3) := by decide +kernel
theorem dL_law_41 : decode cL_law 41 = .ok (.aload_n 0, 1) := by decide +kernel
theorem dL_law_42 : decode cL_law 42 = .ok (.iconst 2, 1) := by decide +kernel
theorem dL_law_43 : decode cL_law 43 = .ok (.iload_n 3, 1) := by decide +kernel
theorem dL_law_44 : decode cL_law 44 = .ok (.imul, 1) := by decide +kernel
theorem dL_law_45 : decode cL_law 45 = .ok (.invokestatic 165, 3) := by decide +kernel
theorem dL_law_48 : decode cL_law 48 = .ok (.istore 4, 2) := by decide +kernel
theorem dL_law_50 : decode cL_law 50 = .ok (.aload_n 0, 1) := by decide +kernel
theorem dL_law_51 : decode cL_law 51 = .ok (.iconst 2, 1) := by decide +kernel
theorem dL_law_52 : decode cL_law 52 = .ok (.iload_n 3, 1) := by decide +kernel
theorem dL_law_53 : decode cL_law 53 = .ok (.imul, 1) := by decide +kernel
theorem dL_law_54 : decode cL_law 54 = .ok (.iconst 1, 1) := by decide +kernel
theorem dL_law_55 : decode cL_law 55 = .ok (.iadd, 1) := by decide +kernel
theorem dL_law_56 : decode cL_law 56 = .ok (.invokestatic 165, 3) := by decide +kernel
theorem dL_law_59 : decode cL_law 59 = .ok (.istore 5, 2) := by decide +kernel
theorem dL_law_61 : decode cL_law 61 = .ok (.aload_n 1, 1) := by decide +kernel
theorem dL_law_62 : decode cL_law 62 = .ok (.bipush 7, 2) := by decide +kernel
theorem dL_law_64 : decode cL_law 64 = .ok (.invokestatic 127, 3) := by decide +kernel
theorem dL_law_67 : decode cL_law 67 = .ok (.istore 6, 2) := by decide +kernel
theorem dL_law_69 : decode cL_law 69 = .ok (.aload_n 1, 1) := by decide +kernel
theorem dL_law_70 : decode cL_law 70 = .ok (.invokestatic 146, 3) := by decide +kernel
theorem dL_law_73 : decode cL_law 73 = .ok (.lstore 7, 2) := by decide +kernel
theorem dL_law_75 : decode cL_law 75 = .ok (.aload_n 1, 1) := by decide +kernel
theorem dL_law_76 : decode cL_law 76 = .ok (.iload_n 3, 1) := by decide +kernel
theorem dL_law_77 : decode cL_law 77 = .ok (.ifCond .ne 16, 3) := by decide +kernel
theorem dL_law_80 : decode cL_law 80 = .ok (.iload 4, 2) := by decide +kernel
theorem dL_law_82 : decode cL_law 82 = .ok (.iload 4, 2) := by decide +kernel
theorem dL_law_84 : decode cL_law 84 = .ok (.bipush 14, 2) := by decide +kernel
theorem dL_law_86 : decode cL_law 86 = .ok (.invokestatic 84, 3) := by decide +kernel
theorem dL_law_89 : decode cL_law 89 = .ok (.isub, 1) := by decide +kernel
theorem dL_law_90 : decode cL_law 90 = .ok (.goto 5, 3) := by decide +kernel
theorem dL_law_93 : decode cL_law 93 = .ok (.iload 4, 2) := by decide +kernel
theorem dL_law_95 : decode cL_law 95 = .ok (.iload 5, 2) := by decide +kernel
theorem dL_law_97 : decode cL_law 97 = .ok (.invokestatic 169, 3) := by decide +kernel
theorem dL_law_100 : decode cL_law 100 = .ok (.istore 9, 2) := by decide +kernel
theorem dL_law_102 : decode cL_law 102 = .ok (.iload 9, 2) := by decide +kernel
theorem dL_law_104 : decode cL_law 104 = .ok (.sipush (-1000), 3) := by decide +kernel
theorem dL_law_107 : decode cL_law 107 = .ok (.if_icmp .ge 33, 3) := by decide +kernel
theorem dL_law_110 : decode cL_law 110 = .ok (.aload_n 1, 1) := by decide +kernel
theorem dL_law_111 : decode cL_law 111 = .ok (.bipush 7, 2) := by decide +kernel
theorem dL_law_113 : decode cL_law 113 = .ok (.invokestatic 127, 3) := by decide +kernel
theorem dL_law_116 : decode cL_law 116 = .ok (.iload 6, 2) := by decide +kernel
theorem dL_law_118 : decode cL_law 118 = .ok (.if_icmp .ne 17, 3) := by decide +kernel
theorem dL_law_121 : decode cL_law 121 = .ok (.aload_n 1, 1) := by decide +kernel
theorem dL_law_122 : decode cL_law 122 = .ok (.invokestatic 146, 3) := by decide +kernel
theorem dL_law_125 : decode cL_law 125 = .ok (.lload 7, 2) := by decide +kernel
theorem dL_law_127 : decode cL_law 127 = .ok (.lcmp, 1) := by decide +kernel
theorem dL_law_128 : decode cL_law 128 = .ok (.ifCond .ne 7, 3) := by decide +kernel
theorem dL_law_131 : decode cL_law 131 = .ok (.iconst 1, 1) := by decide +kernel
theorem dL_law_132 : decode cL_law 132 = .ok (.goto 4, 3) := by decide +kernel
theorem dL_law_135 : decode cL_law 135 = .ok (.iconst 0, 1) := by decide +kernel
theorem dL_law_136 : decode cL_law 136 = .ok (.istore_n 2, 1) := by decide +kernel
theorem dL_law_137 : decode cL_law 137 = .ok (.goto 98, 3) := by decide +kernel
theorem dL_law_140 : decode cL_law 140 = .ok (.aload_n 1, 1) := by decide +kernel
theorem dL_law_141 : decode cL_law 141 = .ok (.bipush 7, 2) := by decide +kernel
theorem dL_law_143 : decode cL_law 143 = .ok (.invokestatic 127, 3) := by decide +kernel
theorem dL_law_146 : decode cL_law 146 = .ok (.iload 6, 2) := by decide +kernel
theorem dL_law_148 : decode cL_law 148 = .ok (.bipush 6, 2) := by decide +kernel
theorem dL_law_150 : decode cL_law 150 = .ok (.if_icmp .ge 10, 3) := by decide +kernel
theorem dL_law_153 : decode cL_law 153 = .ok (.iload 6, 2) := by decide +kernel
theorem dL_law_155 : decode cL_law 155 = .ok (.iconst 1, 1) := by decide +kernel
theorem dL_law_156 : decode cL_law 156 = .ok (.iadd, 1) := by decide +kernel
theorem dL_law_157 : decode cL_law 157 = .ok (.goto 5, 3) := by decide +kernel
theorem dL_law_160 : decode cL_law 160 = .ok (.bipush 6, 2) := by decide +kernel
theorem dL_law_162 : decode cL_law 162 = .ok (.if_icmp .ne 7, 3) := by decide +kernel
theorem dL_law_165 : decode cL_law 165 = .ok (.iconst 1, 1) := by decide +kernel
theorem dL_law_166 : decode cL_law 166 = .ok (.goto 4, 3) := by decide +kernel
theorem dL_law_169 : decode cL_law 169 = .ok (.iconst 0, 1) := by decide +kernel
theorem dL_law_170 : decode cL_law 170 = .ok (.istore_n 2, 1) := by decide +kernel
theorem dL_law_171 : decode cL_law 171 = .ok (.iload_n 2, 1) := by decide +kernel
theorem dL_law_172 : decode cL_law 172 = .ok (.ifCond .eq 63, 3) := by decide +kernel
theorem dL_law_175 : decode cL_law 175 = .ok (.iload_n 3, 1) := by decide +kernel
theorem dL_law_176 : decode cL_law 176 = .ok (.ifCond .le 59, 3) := by decide +kernel
theorem dL_law_179 : decode cL_law 179 = .ok (.iload 6, 2) := by decide +kernel
theorem dL_law_181 : decode cL_law 181 = .ok (.bipush 6, 2) := by decide +kernel
theorem dL_law_183 : decode cL_law 183 = .ok (.if_icmp .ge 52, 3) := by decide +kernel
theorem dL_law_186 : decode cL_law 186 = .ok (.iload 5, 2) := by decide +kernel
theorem dL_law_188 : decode cL_law 188 = .ok (.iconst 5, 1) := by decide +kernel
theorem dL_law_189 : decode cL_law 189 = .ok (.ishr, 1) := by decide +kernel
theorem dL_law_190 : decode cL_law 190 = .ok (.iconst 3, 1) := by decide +kernel
theorem dL_law_191 : decode cL_law 191 = .ok (.invokestatic 84, 3) := by decide +kernel
theorem dL_law_194 : decode cL_law 194 = .ok (.ifCond .ne 41, 3) := by decide +kernel
theorem dL_law_197 : decode cL_law 197 = .ok (.aload_n 1, 1) := by decide +kernel
theorem dL_law_198 : decode cL_law 198 = .ok (.invokestatic 152, 3) := by decide +kernel
theorem dL_law_201 : decode cL_law 201 = .ok (.iload 6, 2) := by decide +kernel
theorem dL_law_203 : decode cL_law 203 = .ok (.if_icmp .ne 30, 3) := by decide +kernel
theorem dL_law_206 : decode cL_law 206 = .ok (.aload_n 1, 1) := by decide +kernel
theorem dL_law_207 : decode cL_law 207 = .ok (.invokestatic 146, 3) := by decide +kernel
theorem dL_law_210 : decode cL_law 210 = .ok (.lload 7, 2) := by decide +kernel
theorem dL_law_212 : decode cL_law 212 = .ok (.lcmp, 1) := by decide +kernel
theorem dL_law_213 : decode cL_law 213 = .ok (.ifCond .ne 20, 3) := by decide +kernel
theorem dL_law_216 : decode cL_law 216 = .ok (.aload_n 1, 1) := by decide +kernel
theorem dL_law_217 : decode cL_law 217 = .ok (.iload 4, 2) := by decide +kernel
theorem dL_law_219 : decode cL_law 219 = .ok (.iload 5, 2) := by decide +kernel
theorem dL_law_221 : decode cL_law 221 = .ok (.invokestatic 169, 3) := by decide +kernel
theorem dL_law_224 : decode cL_law 224 = .ok (.iload 9, 2) := by decide +kernel
theorem dL_law_226 : decode cL_law 226 = .ok (.if_icmp .ne 7, 3) := by decide +kernel
theorem dL_law_229 : decode cL_law 229 = .ok (.iconst 1, 1) := by decide +kernel
theorem dL_law_230 : decode cL_law 230 = .ok (.goto 4, 3) := by decide +kernel
theorem dL_law_233 : decode cL_law 233 = .ok (.iconst 0, 1) := by decide +kernel
theorem dL_law_234 : decode cL_law 234 = .ok (.istore_n 2, 1) := by decide +kernel
theorem dL_law_235 : decode cL_law 235 = .ok (.iload_n 2, 1) := by decide +kernel
theorem dL_law_236 : decode cL_law 236 = .ok (.ifCond .eq 119, 3) := by decide +kernel
theorem dL_law_239 : decode cL_law 239 = .ok (.aload_n 1, 1) := by decide +kernel
theorem dL_law_240 : decode cL_law 240 = .ok (.invokestatic 157, 3) := by decide +kernel
theorem dL_law_243 : decode cL_law 243 = .ok (.ifCond .eq 112, 3) := by decide +kernel
theorem dL_law_246 : decode cL_law 246 = .ok (.aload_n 1, 1) := by decide +kernel
theorem dL_law_247 : decode cL_law 247 = .ok (.iload 4, 2) := by decide +kernel
theorem dL_law_249 : decode cL_law 249 = .ok (.iconst 5, 1) := by decide +kernel
theorem dL_law_250 : decode cL_law 250 = .ok (.ishr, 1) := by decide +kernel
theorem dL_law_251 : decode cL_law 251 = .ok (.iconst 4, 1) := by decide +kernel
theorem dL_law_252 : decode cL_law 252 = .ok (.invokestatic 84, 3) := by decide +kernel
theorem dL_law_255 : decode cL_law 255 = .ok (.invokestatic 161, 3) := by decide +kernel
theorem dL_law_258 : decode cL_law 258 = .ok (.ifCond .eq 97, 3) := by decide +kernel
theorem dL_law_261 : decode cL_law 261 = .ok (.aload_n 1, 1) := by decide +kernel
theorem dL_law_262 : decode cL_law 262 = .ok (.iload 5, 2) := by decide +kernel
theorem dL_law_264 : decode cL_law 264 = .ok (.iconst 3, 1) := by decide +kernel
theorem dL_law_265 : decode cL_law 265 = .ok (.ishr, 1) := by decide +kernel
theorem dL_law_266 : decode cL_law 266 = .ok (.iconst 4, 1) := by decide +kernel
theorem dL_law_267 : decode cL_law 267 = .ok (.invokestatic 84, 3) := by decide +kernel
theorem dL_law_270 : decode cL_law 270 = .ok (.iload 5, 2) := by decide +kernel
theorem dL_law_272 : decode cL_law 272 = .ok (.iconst 5, 1) := by decide +kernel
theorem dL_law_273 : decode cL_law 273 = .ok (.ishr, 1) := by decide +kernel
theorem dL_law_274 : decode cL_law 274 = .ok (.iconst 4, 1) := by decide +kernel
theorem dL_law_275 : decode cL_law 275 = .ok (.invokestatic 84, 3) := by decide +kernel
theorem dL_law_278 : decode cL_law 278 = .ok (.invokestatic 172, 3) := by decide +kernel
theorem dL_law_281 : decode cL_law 281 = .ok (.ifCond .eq 74, 3) := by decide +kernel
theorem dL_law_284 : decode cL_law 284 = .ok (.iload_n 3, 1) := by decide +kernel
theorem dL_law_285 : decode cL_law 285 = .ok (.iconst 3, 1) := by decide +kernel
theorem dL_law_286 : decode cL_law 286 = .ok (.irem, 1) := by decide +kernel
theorem dL_law_287 : decode cL_law 287 = .ok (.ifCond .gt 64, 3) := by decide +kernel
theorem dL_law_290 : decode cL_law 290 = .ok (.aload_n 1, 1) := by decide +kernel
theorem dL_law_291 : decode cL_law 291 = .ok (.iload 4, 2) := by decide +kernel
theorem dL_law_293 : decode cL_law 293 = .ok (.bipush 6, 2) := by decide +kernel
theorem dL_law_295 : decode cL_law 295 = .ok (.ishr, 1) := by decide +kernel
theorem dL_law_296 : decode cL_law 296 = .ok (.iconst 4, 1) := by decide +kernel
theorem dL_law_297 : decode cL_law 297 = .ok (.invokestatic 84, 3) := by decide +kernel
theorem dL_law_300 : decode cL_law 300 = .ok (.iload 5, 2) := by decide +kernel
theorem dL_law_302 : decode cL_law 302 = .ok (.iconst 4, 1) := by decide +kernel
theorem dL_law_303 : decode cL_law 303 = .ok (.ishr, 1) := by decide +kernel
theorem dL_law_304 : decode cL_law 304 = .ok (.bipush 8, 2) := by decide +kernel
theorem dL_law_306 : decode cL_law 306 = .ok (.invokestatic 84, 3) := by decide +kernel
theorem dL_law_309 : decode cL_law 309 = .ok (.iload 5, 2) := by decide +kernel
theorem dL_law_311 : decode cL_law 311 = .ok (.iconst 4, 1) := by decide +kernel
theorem dL_law_312 : decode cL_law 312 = .ok (.ishr, 1) := by decide +kernel
theorem dL_law_313 : decode cL_law 313 = .ok (.bipush 8, 2) := by decide +kernel
theorem dL_law_315 : decode cL_law 315 = .ok (.invokestatic 84, 3) := by decide +kernel
theorem dL_law_318 : decode cL_law 318 = .ok (.iconst 1, 1) := by decide +kernel
theorem dL_law_319 : decode cL_law 319 = .ok (.iadd, 1) := by decide +kernel
theorem dL_law_320 : decode cL_law 320 = .ok (.iload 4, 2) := by decide +kernel
theorem dL_law_322 : decode cL_law 322 = .ok (.bipush 8, 2) := by decide +kernel
theorem dL_law_324 : decode cL_law 324 = .ok (.ishr, 1) := by decide +kernel
theorem dL_law_325 : decode cL_law 325 = .ok (.bipush 7, 2) := by decide +kernel
theorem dL_law_327 : decode cL_law 327 = .ok (.invokestatic 84, 3) := by decide +kernel
theorem dL_law_330 : decode cL_law 330 = .ok (.iadd, 1) := by decide +kernel
theorem dL_law_331 : decode cL_law 331 = .ok (.bipush 8, 2) := by decide +kernel
theorem dL_law_333 : decode cL_law 333 = .ok (.irem, 1) := by decide +kernel
theorem dL_law_334 : decode cL_law 334 = .ok (.iload 5, 2) := by decide +kernel
theorem dL_law_336 : decode cL_law 336 = .ok (.bipush 7, 2) := by decide +kernel
theorem dL_law_338 : decode cL_law 338 = .ok (.ishr, 1) := by decide +kernel
theorem dL_law_339 : decode cL_law 339 = .ok (.sipush 1000, 3) := by decide +kernel
theorem dL_law_342 : decode cL_law 342 = .ok (.invokestatic 84, 3) := by decide +kernel
theorem dL_law_345 : decode cL_law 345 = .ok (.invokestatic 176, 3) := by decide +kernel
theorem dL_law_348 : decode cL_law 348 = .ok (.ifCond .eq 7, 3) := by decide +kernel
theorem dL_law_351 : decode cL_law 351 = .ok (.iconst 1, 1) := by decide +kernel
theorem dL_law_352 : decode cL_law 352 = .ok (.goto 4, 3) := by decide +kernel
theorem dL_law_355 : decode cL_law 355 = .ok (.iconst 0, 1) := by decide +kernel
theorem dL_law_356 : decode cL_law 356 = .ok (.istore_n 2, 1) := by decide +kernel
theorem dL_law_357 : decode cL_law 357 = .ok (.iinc 3 1, 3) := by decide +kernel
theorem dL_law_360 : decode cL_law 360 = .ok (.goto (-329), 3) := by decide +kernel
theorem dL_law_363 : decode cL_law 363 = .ok (.iload_n 2, 1) := by decide +kernel
theorem dL_law_364 : decode cL_law 364 = .ok (.ireturn, 1) := by decide +kernel
abbrev vwCl : List vw_C := [(RX0, TX0, 10), (RX2, TX2, 4), (RX3, TX3, 4), (RX4, TX4, 2), (RX5, TX5, 4)]
end
section
theorem i_vc : Claimed_1_1 ∧ Claimed_1_2 := sorry
end
