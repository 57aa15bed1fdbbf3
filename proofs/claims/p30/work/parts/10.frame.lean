/-! the memory's picture: M.1 a j: place j of the array a (ints, booleans, chars); M.2.1 a k: field k of the object a; M.2.2.1: which of the six kept bureaus lies at a place; M.2.2.2: the law's row of longs -/
abbrev MM : Type := (Nat → Nat → Int32) × (Nat → Nat → Int32) × (Nat → Nat) × (Nat → Int64)
abbrev GG : Type := va_G × (Nat → ClassId) × (Nat → Nat)
def NN : Nat := 84
def oI (n : Nat) : Int32 := match n with | 0 => -1 | n + 1 => nI n
def bI (b : Bool) : Int32 := match b with | true => nI 1 | false => nI 0
def blen (i : Nat) : Nat := match i with | 1 => 8 | 2 => 8 | 3 => 4 | 4 => 4 | 5 => 4 | _ => 6
def cellB (G : GG) (M : MM) (i : Nat) : va_E := .inr (0, [.ref (G.2.2 (i + 1)), .ref (G.2.2 (i + 2)), .ref (G.2.2 (i + 3)), .ref (G.2.2 (i + 4)), .ref (G.2.2 (i + 5)), .ref (G.2.2 (i + 6)), .ref (G.2.2 (i + 7)), .int (M.2.1 i 7), .int (M.2.1 i 8), .int (M.2.1 i 9)])
def cellX (G : GG) (M : MM) (i : Nat) : va_E := match i with
  | 72 => .inr (4, [.ref (G.2.2 0), .ref (G.2.2 73), .ref (G.2.2 77), .ref (G.2.2 79)])
  | 73 => .inr (2, [.ref (G.2.2 74), .ref (G.2.2 75), .ref (G.2.2 76), .int (M.2.1 73 3)])
  | 74 => .inl (G.2.1 3, 2, .inr (.inr (.inr (.inr (fun k => some (G.2.2 (8 * (k + 1))))))))
  | 75 => .inl (G.2.1 1, 2, .inl (M.1 75))
  | 76 => .inl (G.2.1 3, 6, .inr (.inr (.inr (.inr (fun k => some (G.2.2 (8 * (3 + M.2.2.1 k))))))))
  | 77 => .inr (3, [.ref (G.2.2 78), .int (M.2.1 77 1)])
  | 78 => .inl (G.2.1 0, 60, .inl (M.1 78))
  | 79 => .inr (1, [.ref (G.2.2 80), .ref (G.2.2 81), .ref (G.2.2 82), .ref (G.2.2 83)])
  | 80 => .inl (G.2.1 0, 8, .inl (M.1 80))
  | 81 => .inl (G.2.1 1, 256, .inl (M.1 81))
  | 82 => .inl (G.2.1 0, 256, .inl (M.1 82))
  | 83 => .inl (G.2.1 0, 8, .inl (M.1 83))
  | _ => .inl (G.2.1 0, 8, .inl (fun _ => 0))
def cellOf (G : GG) (M : MM) (i : Nat) : va_E := if i < 72 then (if i % 8 = 0 then cellB G M i else .inl (G.2.1 0, blen (i % 8), .inl (M.1 i))) else cellX G M i
def WS (G : GG) (M : MM) : va_W := (List.range NN).map (fun i => (G.2.2 i, cellOf G M i))
def setR (M : MM) (i j : Nat) (v : Int32) : MM := (fun a => if a = i then upd (M.1 i) j v else M.1 a, M.2)
def setRow (M : MM) (i : Nat) (f : Nat → Int32) : MM := (fun a => if a = i then f else M.1 a, M.2)
def setV (M : MM) (i k : Nat) (v : Int32) : MM := (M.1, fun a b => if a = i ∧ b = k then v else M.2.1 a b, M.2.2)
def setP (M : MM) (p : Nat → Nat) : MM := (M.1, M.2.1, p, M.2.2.2)
def setO (M : MM) (o : Nat → Int64) : MM := (M.1, M.2.1, M.2.2.1, o)
theorem WS_get {G : GG} {M : MM} {i : Nat} {e : va_E} (hi : i < NN) (h : cellOf G M i = e) : (WS G M)[i]? = some (G.2.2 i, e) := by
  subst h
  simp [WS, List.getElem?_map, List.getElem?_range hi]
theorem WS_get_lt {G : GG} {M : MM} {i : Nat} {q : Nat × va_E} (h : (WS G M)[i]? = some q) : i < NN ∧ q = (G.2.2 i, cellOf G M i) := by
  rcases Nat.lt_or_ge i NN with hi | hi
  · exact ⟨hi, Option.some.inj (h.symm.trans (WS_get hi rfl))⟩
  · rw [List.getElem?_eq_none (by simpa [WS] using hi)] at h
    cases h
theorem WS_set {G : GG} {M M' : MM} {i : Nat} {e : va_E} (hi : i < NN) (he : ∀ j, j ≠ i → cellOf G M' j = cellOf G M j) (hx : cellOf G M' i = e) : (WS G M).set i (G.2.2 i, e) = WS G M' := by
  apply List.ext_getElem?
  intro j
  rw [List.getElem?_set]
  by_cases hj : i = j
  · subst hj
    rw [WS_get hi hx, if_pos rfl, if_pos (by simpa [WS] using hi)]
  · rw [if_neg hj]
    rcases Nat.lt_or_ge j NN with h | h
    · rw [WS_get h (he j (fun h => hj h.symm)), WS_get h rfl]
    · rw [List.getElem?_eq_none (by simpa [WS] using h), List.getElem?_eq_none (by simpa [WS] using h)]
def GInj (g : Nat → Nat) : Prop := ∀ i j, i < NN → j < NN → g i = g j → i = j
def tysG (G : GG) : List (ClassId × FieldType) := [(G.2.1 0, .int), (G.2.1 1, .boolean), (G.2.1 0, .int), (G.2.1 3, .object "PotLabels$Bureau")]
theorem WS_D {G : GG} {M : MM} {A : Nat → Prop} (hg : GInj G.2.2) (hA : ∀ i, i < NN → A (G.2.2 i)) : va_D A (WS G M) := by
  refine ⟨fun i j p q hp hq h => ?_, fun k q h => ?_⟩
  · obtain ⟨h1, rfl⟩ := WS_get_lt hp
    obtain ⟨h2, rfl⟩ := WS_get_lt hq
    exact hg i j h1 h2 h
  · obtain ⟨h1, rfl⟩ := WS_get_lt h
    exact hA k h1
theorem cellOf_congr {G : GG} {M M' : MM} {j : Nat} (h1 : M'.1 j = M.1 j) (h2 : M'.2.1 j = M.2.1 j) (h3 : M'.2.2.1 = M.2.2.1) (h4 : M'.2.2.2 = M.2.2.2) : cellOf G M' j = cellOf G M j := by
  unfold cellOf
  split
  · split
    · simp only [cellB, h2]
    · rw [h1]
  · unfold cellX
    split <;> simp only [h1, h2, h3, h4]
theorem setR_ne {M : MM} {i j a : Nat} {v : Int32} (h : a ≠ i) : (setR M i j v).1 a = M.1 a := by simp [setR, h]
theorem setR_eq {M : MM} {i j : Nat} {v : Int32} : (setR M i j v).1 i = upd (M.1 i) j v := by simp [setR]
theorem setRow_ne {M : MM} {i a : Nat} {f : Nat → Int32} (h : a ≠ i) : (setRow M i f).1 a = M.1 a := by simp [setRow, h]
theorem setRow_eq {M : MM} {i : Nat} {f : Nat → Int32} : (setRow M i f).1 i = f := by simp [setRow]
theorem setV_ne {M : MM} {i k a b : Nat} {v : Int32} (h : a ≠ i) : (setV M i k v).2.1 a b = M.2.1 a b := by simp [setV, h]
theorem setV_nk {M : MM} {i k a b : Nat} {v : Int32} (h : b ≠ k) : (setV M i k v).2.1 a b = M.2.1 a b := by simp [setV, h]
theorem setV_eq {M : MM} {i k : Nat} {v : Int32} : (setV M i k v).2.1 i k = v := by simp [setV]
theorem WS_setR {G : GG} {M : MM} {i j : Nat} {v : Int32} {e : va_E} (hi : i < NN) (hx : cellOf G (setR M i j v) i = e) : (WS G M).set i (G.2.2 i, e) = WS G (setR M i j v) := WS_set hi (fun a ha => cellOf_congr (setR_ne ha) rfl rfl rfl) hx
theorem WS_setRow {G : GG} {M : MM} {i : Nat} {f : Nat → Int32} {e : va_E} (hi : i < NN) (hx : cellOf G (setRow M i f) i = e) : (WS G M).set i (G.2.2 i, e) = WS G (setRow M i f) := WS_set hi (fun a ha => cellOf_congr (setRow_ne ha) rfl rfl rfl) hx
theorem WS_setV {G : GG} {M : MM} {i k : Nat} {v : Int32} {e : va_E} (hi : i < NN) (hx : cellOf G (setV M i k v) i = e) : (WS G M).set i (G.2.2 i, e) = WS G (setV M i k v) := WS_set hi (fun a ha => cellOf_congr rfl (funext fun b => setV_ne ha) rfl rfl) hx
/-! which cells are arrays of ints, of booleans, of chars -/
def ilen (i : Nat) : Option Nat := if i < 72 then (if i % 8 = 0 then none else some (blen (i % 8))) else match i with | 78 => some 60 | 80 => some 8 | 82 => some 256 | 83 => some 8 | _ => none
def zlen (i : Nat) : Option Nat := match i with | 75 => some 2 | 81 => some 256 | _ => none
theorem ilen_cell {G : GG} {M : MM} {i n : Nat} (h : ilen i = some n) : i < NN ∧ cellOf G M i = .inl (G.2.1 0, n, .inl (M.1 i)) := by
  unfold ilen at h
  split at h
  · rename_i h1
    split at h
    · cases h
    · rename_i h2
      cases h
      exact ⟨Nat.lt_trans h1 (by decide), by simp [cellOf, h1, h2]⟩
  · split at h <;> first | (cases h; exact ⟨by decide, rfl⟩) | cases h
theorem zlen_cell {G : GG} {M : MM} {i n : Nat} (h : zlen i = some n) : i < NN ∧ cellOf G M i = .inl (G.2.1 1, n, .inl (M.1 i)) := by
  unfold zlen at h
  split at h <;> first | (cases h; exact ⟨by decide, rfl⟩) | cases h
theorem ilen_B {b k : Nat} (hb : b < 9) (h1 : 0 < k) (h2 : k < 8) : ilen (8 * b + k) = some (blen k) := by
  unfold ilen
  have e : (8 * b + k) % 8 = k := by omega
  rw [if_pos (by omega), e, if_neg (by omega)]
theorem cell_B {G : GG} {M : MM} {b : Nat} (hb : b < 9) : cellOf G M (8 * b) = cellB G M (8 * b) := by
  have e : (8 * b) % 8 = 0 := by omega
  unfold cellOf
  rw [if_pos (by omega), if_pos e]
/-! locals -/
def wide (v : Value) : Bool := match v with | .long _ => true | .double _ => true | _ => false
def lvg : List (Nat × Value) → Nat → Option Value
  | [], _ => none
  | (j, v) :: r, i => bif Nat.beq j i then some v else lvg r i
def lvr (i : Nat) : List (Nat × Value) → List (Nat × Value)
  | [] => []
  | (j, v) :: r => bif Nat.beq j i || (Nat.beq (j + 1) i && wide v) then lvr i r else (j, v) :: lvr i r
def lvw (i : Nat) : List (Nat × Value) → List (Nat × Value)
  | [] => []
  | (j, v) :: r => bif Nat.beq j i || (Nat.beq j (i + 1) || (Nat.beq (j + 1) i && wide v)) then lvw i r else (j, v) :: lvw i r
def lvi (i : Nat) (v : Value) : List (Nat × Value) → List (Nat × Value)
  | [] => [(i, v)]
  | (j, u) :: r => bif Nat.blt i j then (i, v) :: (j, u) :: r else (j, u) :: lvi i v r
theorem nbq (a b : Nat) : (a == b) = Nat.beq a b := by
  cases h : Nat.beq a b with
  | true => have e := Nat.eq_of_beq_eq_true h; subst e; simp
  | false => have e := Nat.ne_of_beq_eq_false h; simp [e]
theorem wide_cat (v : Value) : wide v = (v.category == 2) := by cases v <;> rfl
theorem lvg_mem : ∀ {lv : List (Nat × Value)} {i : Nat} {v : Value}, lvg lv i = some v → (i, v) ∈ lv
  | [], _, _, h => by cases h
  | (j, u) :: r, i, v, h => by
    unfold lvg at h
    cases hb : Nat.beq j i with
    | true =>
      rw [hb] at h
      have e := Nat.eq_of_beq_eq_true hb
      subst e
      cases h
      exact List.mem_cons_self
    | false =>
      rw [hb] at h
      exact List.mem_cons_of_mem _ (lvg_mem h)
theorem lvg_at {ls : Array Slot} {nL : Nat} {lv : List (Nat × Value)} {i : Nat} {v : Value} (h : lv_has ls nL lv) (hl : lvg lv i = some v) : ls[i]? = some (.val v) := h.2.2 (i, v) (lvg_mem hl)
theorem lvi_mem : ∀ {i : Nat} {v : Value} {lv : List (Nat × Value)} {q : Nat × Value}, q ∈ lvi i v lv → q = (i, v) ∨ q ∈ lv
  | i, v, [], q, h => by
    rcases List.mem_cons.mp h with h | h
    · exact Or.inl h
    · cases h
  | i, v, (j, u) :: r, q, h => by
    unfold lvi at h
    cases hb : Nat.blt i j with
    | true => rw [hb] at h; exact List.mem_cons.mp h
    | false =>
      rw [hb] at h
      rcases List.mem_cons.mp h with h | h
      · exact Or.inr (by rw [h]; exact List.mem_cons_self)
      · exact (lvi_mem h).imp id (List.mem_cons_of_mem _)
theorem lvr_mem : ∀ {i : Nat} {lv : List (Nat × Value)} {q : Nat × Value}, q ∈ lvr i lv → q ∈ lv.filter (fun q => !(q.1 == i) && !(q.1 + 1 == i && q.2.category == 2))
  | i, [], q, h => by cases h
  | i, (j, u) :: r, q, h => by
    unfold lvr at h
    cases hb : (Nat.beq j i || (Nat.beq (j + 1) i && wide u)) with
    | true =>
      rw [hb] at h
      have h2 := lvr_mem h
      rw [List.mem_filter] at h2 ⊢
      exact ⟨List.mem_cons_of_mem _ h2.1, h2.2⟩
    | false =>
      rw [hb] at h
      rcases List.mem_cons.mp h with h | h
      · subst h
        rw [List.mem_filter]
        refine ⟨List.mem_cons_self, ?_⟩
        simp only [Bool.or_eq_false_iff] at hb
        have e1 : (j == i) = false := by rw [nbq]; exact hb.1
        have e2 : (j + 1 == i && u.category == 2) = false := by rw [← wide_cat, nbq]; exact hb.2
        simp only [e1, e2]; rfl
      · have h2 := lvr_mem h
        rw [List.mem_filter] at h2 ⊢
        exact ⟨List.mem_cons_of_mem _ h2.1, h2.2⟩
theorem lvw_mem : ∀ {i : Nat} {lv : List (Nat × Value)} {q : Nat × Value}, q ∈ lvw i lv → q ∈ lv.filter (fun q => !(q.1 == i) && (!(q.1 == i + 1) && !(q.1 + 1 == i && q.2.category == 2)))
  | i, [], q, h => by cases h
  | i, (j, u) :: r, q, h => by
    unfold lvw at h
    cases hb : (Nat.beq j i || (Nat.beq j (i + 1) || (Nat.beq (j + 1) i && wide u))) with
    | true =>
      rw [hb] at h
      have h2 := lvw_mem h
      rw [List.mem_filter] at h2 ⊢
      exact ⟨List.mem_cons_of_mem _ h2.1, h2.2⟩
    | false =>
      rw [hb] at h
      rcases List.mem_cons.mp h with h | h
      · subst h
        rw [List.mem_filter]
        refine ⟨List.mem_cons_self, ?_⟩
        simp only [Bool.or_eq_false_iff] at hb
        have e1 : (j == i) = false := by rw [nbq]; exact hb.1
        have e0 : (j == i + 1) = false := by rw [nbq]; exact hb.2.1
        have e2 : (j + 1 == i && u.category == 2) = false := by rw [← wide_cat, nbq]; exact hb.2.2
        simp only [e1, e0, e2]; rfl
      · have h2 := lvw_mem h
        rw [List.mem_filter] at h2 ⊢
        exact ⟨List.mem_cons_of_mem _ h2.1, h2.2⟩
theorem lvs_has {ls : Array Slot} {nL i : Nat} {v : Value} {lv : List (Nat × Value)} (h : lv_has ls nL ((i, v) :: lv.filter (fun q => !(q.1 == i) && !(q.1 + 1 == i && q.2.category == 2)))) : lv_has ls nL (lvi i v (lvr i lv)) := ⟨h.1, h.2.1, fun q hq => h.2.2 q (by
  rcases lvi_mem hq with e | e
  · rw [e]; exact List.mem_cons_self
  · exact List.mem_cons_of_mem _ (lvr_mem e))⟩
theorem lvs2_has {ls : Array Slot} {nL i : Nat} {v : Value} {lv : List (Nat × Value)} (h : lv_has ls nL ((i, v) :: lv.filter (fun q => !(q.1 == i) && (!(q.1 == i + 1) && !(q.1 + 1 == i && q.2.category == 2))))) : lv_has ls nL (lvi i v (lvw i lv)) := ⟨h.1, h.2.1, fun q hq => h.2.2 q (by
  rcases lvi_mem hq with e | e
  · rw [e]; exact List.mem_cons_self
  · exact List.mem_cons_of_mem _ (lvw_mem e))⟩
/-! the judgement -/
def J (G : GG) (p : Program) (l : Launch) (e : Env) (R : Room) (s : State) (m : MethodId) (args : Array Value) (below : List Frame) (meth : Method) (c : Code) (A : Nat → Prop) (nL : Nat) (Q : State → Prop) (k9 n9 : Nat) (pc : Nat) (lv : List (Nat × Value)) (st : List Value) (M : MM) : Prop :=
  ∀ (H : Heap) (locs : List Loc) (ls : Array Slot), va_P G.1 vwCl (WS G M) H → va_S A s.heap H locs → lv_has ls nL lv → W p l e R s m args below meth c H locs k9 n9 Q (F0 m pc ls st)
/-- the words of the tables that lists don't hold: nest mates' fields and methods -/
def nestF : List Cond := [.fieldLinkNest "PotLabels" 49 "PotLabels$Bureau" "colours" "[I" "PotLabels", .fieldLinkNest "PotLabels$Text" 27 "PotLabels$Bureau" "colours" "[I" "PotLabels", .fieldLinkNest "PotLabels" 75 "PotLabels$Bureau" "labels" "[I" "PotLabels", .fieldLinkNest "PotLabels" 66 "PotLabels$Bureau" "kinds" "[I" "PotLabels", .fieldLinkNest "PotLabels" 69 "PotLabels$Bureau" "sharpnesses" "[I" "PotLabels", .fieldLinkNest "PotLabels" 72 "PotLabels$Bureau" "lenders" "[I" "PotLabels", .fieldLinkNest "PotLabels" 190 "PotLabels$Bureau" "figures" "[I" "PotLabels", .fieldLinkNest "PotLabels" 193 "PotLabels$Bureau" "grounds" "[I" "PotLabels", .fieldLinkNest "PotLabels" 198 "PotLabels$Bureau" "charts" "I" "PotLabels", .fieldLinkNest "PotLabels" 207 "PotLabels$Bureau" "corrections" "I" "PotLabels", .fieldLinkNest "PotLabels" 210 "PotLabels$Bureau" "refusals" "I" "PotLabels", .fieldLinkNest "PotLabels" 164 "PotLabels$Memory" "held" "I" "PotLabels", .fieldLinkNest "PotLabels" 124 "PotLabels$Text" "length" "I" "PotLabels"]
def KW (G : GG) (s : State) : Prop := va_K G.1 vwCl (tysG G) s ∧ ∀ w ∈ nestF, va_Nw w s
def Cx (G : GG) (p : Program) (s : State) (m : MethodId) (args : Array Value) (meth : Method) (c : Code) (A : Nat → Prop) (cc : ByteArray) (nL : Nat) (own : String) (Ts : List Cond) : Prop :=
  p.tables.exec = Jvm.exec ∧ c.code = cc ∧ c.maxLocals = nL ∧ s.vm.findClass own = some m.cls ∧ (∀ w ∈ Ts, w.before args s = true) ∧ meth.locks = false ∧ KW G s ∧ GInj G.2.2 ∧ (∀ i, i < NN → A (G.2.2 i)) ∧ ∀ q, s.heap.size ≤ q → A q
section JR
variable {G : GG} {p : Program} {l : Launch} {e : Env} {R : Room} {s : State} {m : MethodId} {args : Array Value} {below : List Frame} {meth : Method} {c : Code} {A : Nat → Prop} {nL : Nat} {Q : State → Prop} {k9 n9 pc : Nat} {lv : List (Nat × Value)} {st : List Value} {M : MM} {cc : ByteArray} {own : String} {Ts : List Cond}
theorem Cx.D (C : Cx G p s m args meth c A cc nL own Ts) : va_D A (WS G M) := WS_D C.2.2.2.2.2.2.2.1 C.2.2.2.2.2.2.2.2.1
theorem Cx.K (C : Cx G p s m args meth c A cc nL own Ts) : va_K G.1 vwCl (tysG G) s := C.2.2.2.2.2.2.1.1
theorem Cx.w (C : Cx G p s m args meth c A cc nL own Ts) {w : Cond} (h : w ∈ Ts) : w.before args s = true := C.2.2.2.2.1 w h

theorem j_iconst (C : Cx G p s m args meth c A cc nL own Ts) {n : Int} {v : Int32} (hd : decode cc pc = .ok (.iconst n, 1)) (hv9 : Int32.ofInt n = v)
    (k : J G p l e R s m args below meth c A nL Q k9 n9 (pc + 1) lv (.int v :: st) M)
    : J G p l e R s m args below meth c A nL Q k9 n9 pc lv st M := by
  intro H locs ls hP hS hv
  exact lv_iconst C.1 C.2.1 hd hv9 (k H locs ls hP hS hv)
theorem j_bipush (C : Cx G p s m args meth c A cc nL own Ts) {n : Int} {v : Int32} (hd : decode cc pc = .ok (.bipush n, 2)) (hv9 : (Int8.ofInt n).toInt32 = v)
    (k : J G p l e R s m args below meth c A nL Q k9 n9 (pc + 2) lv (.int v :: st) M)
    : J G p l e R s m args below meth c A nL Q k9 n9 pc lv st M := by
  intro H locs ls hP hS hv
  exact lv_bipush C.1 C.2.1 hd hv9 (k H locs ls hP hS hv)
theorem j_sipush (C : Cx G p s m args meth c A cc nL own Ts) {n : Int} {v : Int32} (hd : decode cc pc = .ok (.sipush n, 3)) (hv9 : (Int16.ofInt n).toInt32 = v)
    (k : J G p l e R s m args below meth c A nL Q k9 n9 (pc + 3) lv (.int v :: st) M)
    : J G p l e R s m args below meth c A nL Q k9 n9 pc lv st M := by
  intro H locs ls hP hS hv
  exact lv_sipush C.1 C.2.1 hd hv9 (k H locs ls hP hS hv)
theorem j_lconst (C : Cx G p s m args meth c A cc nL own Ts) {n : Fin 2} {v : Int64} (hd : decode cc pc = .ok (.lconst n, 1)) (hv9 : Int64.ofNat (n : Nat) = v)
    (k : J G p l e R s m args below meth c A nL Q k9 n9 (pc + 1) lv (.long v :: st) M)
    : J G p l e R s m args below meth c A nL Q k9 n9 pc lv st M := by
  intro H locs ls hP hS hv
  exact lv_lconst C.1 C.2.1 hd hv9 (k H locs ls hP hS hv)
theorem j_iload (C : Cx G p s m args meth c A cc nL own Ts) {i : Nat} {x : Int32} (hd : decode cc pc = .ok (.iload i, 2)) (hl : lvg lv i = some (.int x))
    (k : J G p l e R s m args below meth c A nL Q k9 n9 (pc + 2) lv (.int x :: st) M)
    : J G p l e R s m args below meth c A nL Q k9 n9 pc lv st M := by
  intro H locs ls hP hS hv
  exact lv_iload C.1 C.2.1 hd (lvg_at hv hl) (k H locs ls hP hS hv)
theorem j_iload_n (C : Cx G p s m args meth c A cc nL own Ts) {i : Fin 4} {x : Int32} (hd : decode cc pc = .ok (.iload_n i, 1)) (hl : lvg lv i = some (.int x))
    (k : J G p l e R s m args below meth c A nL Q k9 n9 (pc + 1) lv (.int x :: st) M)
    : J G p l e R s m args below meth c A nL Q k9 n9 pc lv st M := by
  intro H locs ls hP hS hv
  exact lv_iload_n C.1 C.2.1 hd rfl (lvg_at hv hl) (k H locs ls hP hS hv)
theorem j_lload (C : Cx G p s m args meth c A cc nL own Ts) {i : Nat} {x : Int64} (hd : decode cc pc = .ok (.lload i, 2)) (hl : lvg lv i = some (.long x))
    (k : J G p l e R s m args below meth c A nL Q k9 n9 (pc + 2) lv (.long x :: st) M)
    : J G p l e R s m args below meth c A nL Q k9 n9 pc lv st M := by
  intro H locs ls hP hS hv
  exact lv_lload C.1 C.2.1 hd (lvg_at hv hl) (k H locs ls hP hS hv)
theorem j_lload_n (C : Cx G p s m args meth c A cc nL own Ts) {i : Fin 4} {x : Int64} (hd : decode cc pc = .ok (.lload_n i, 1)) (hl : lvg lv i = some (.long x))
    (k : J G p l e R s m args below meth c A nL Q k9 n9 (pc + 1) lv (.long x :: st) M)
    : J G p l e R s m args below meth c A nL Q k9 n9 pc lv st M := by
  intro H locs ls hP hS hv
  exact lv_lload_n C.1 C.2.1 hd rfl (lvg_at hv hl) (k H locs ls hP hS hv)
theorem j_dload (C : Cx G p s m args meth c A cc nL own Ts) {i : Nat} {x : UInt64} (hd : decode cc pc = .ok (.dload i, 2)) (hl : lvg lv i = some (.double x))
    (k : J G p l e R s m args below meth c A nL Q k9 n9 (pc + 2) lv (.double x :: st) M)
    : J G p l e R s m args below meth c A nL Q k9 n9 pc lv st M := by
  intro H locs ls hP hS hv
  exact lv_dload C.1 C.2.1 hd (lvg_at hv hl) (k H locs ls hP hS hv)
theorem j_dload_n (C : Cx G p s m args meth c A cc nL own Ts) {i : Fin 4} {x : UInt64} (hd : decode cc pc = .ok (.dload_n i, 1)) (hl : lvg lv i = some (.double x))
    (k : J G p l e R s m args below meth c A nL Q k9 n9 (pc + 1) lv (.double x :: st) M)
    : J G p l e R s m args below meth c A nL Q k9 n9 pc lv st M := by
  intro H locs ls hP hS hv
  exact lv_dload_n C.1 C.2.1 hd rfl (lvg_at hv hl) (k H locs ls hP hS hv)
theorem j_aload (C : Cx G p s m args meth c A cc nL own Ts) {i : Nat} {x : Nat} (hd : decode cc pc = .ok (.aload i, 2)) (hl : lvg lv i = some (.ref x))
    (k : J G p l e R s m args below meth c A nL Q k9 n9 (pc + 2) lv (.ref x :: st) M)
    : J G p l e R s m args below meth c A nL Q k9 n9 pc lv st M := by
  intro H locs ls hP hS hv
  exact lv_aload C.1 C.2.1 hd (lvg_at hv hl) (k H locs ls hP hS hv)
theorem j_aload_n (C : Cx G p s m args meth c A cc nL own Ts) {i : Fin 4} {x : Nat} (hd : decode cc pc = .ok (.aload_n i, 1)) (hl : lvg lv i = some (.ref x))
    (k : J G p l e R s m args below meth c A nL Q k9 n9 (pc + 1) lv (.ref x :: st) M)
    : J G p l e R s m args below meth c A nL Q k9 n9 pc lv st M := by
  intro H locs ls hP hS hv
  exact lv_aload_n C.1 C.2.1 hd rfl (lvg_at hv hl) (k H locs ls hP hS hv)
theorem j_istore (C : Cx G p s m args meth c A cc nL own Ts) {i : Nat} {x : Int32} (hd : decode cc pc = .ok (.istore i, 2)) (hn : i < nL)
    (k : J G p l e R s m args below meth c A nL Q k9 n9 (pc + 2) (lvi i (.int x) (lvr i lv)) st M)
    : J G p l e R s m args below meth c A nL Q k9 n9 pc lv (.int x :: st) M := by
  intro H locs ls hP hS hv
  exact lv_istore C.1 C.2.1 hd hv hn rfl (fun ls9 h9 => k H locs ls9 hP hS (lvs_has h9))
theorem j_istore_n (C : Cx G p s m args meth c A cc nL own Ts) {i : Fin 4} {x : Int32} (hd : decode cc pc = .ok (.istore_n i, 1)) (hn : (i : Nat) < nL)
    (k : J G p l e R s m args below meth c A nL Q k9 n9 (pc + 1) (lvi (i : Nat) (.int x) (lvr (i : Nat) lv)) st M)
    : J G p l e R s m args below meth c A nL Q k9 n9 pc lv (.int x :: st) M := by
  intro H locs ls hP hS hv
  exact lv_istore_n C.1 C.2.1 hd rfl hv hn rfl (fun ls9 h9 => k H locs ls9 hP hS (lvs_has h9))
theorem j_lstore (C : Cx G p s m args meth c A cc nL own Ts) {i : Nat} {x : Int64} (hd : decode cc pc = .ok (.lstore i, 2)) (hn : i + 1 < nL)
    (k : J G p l e R s m args below meth c A nL Q k9 n9 (pc + 2) (lvi i (.long x) (lvw i lv)) st M)
    : J G p l e R s m args below meth c A nL Q k9 n9 pc lv (.long x :: st) M := by
  intro H locs ls hP hS hv
  exact lv_lstore C.1 C.2.1 hd hv hn rfl (fun ls9 h9 => k H locs ls9 hP hS (lvs2_has h9))
theorem j_lstore_n (C : Cx G p s m args meth c A cc nL own Ts) {i : Fin 4} {x : Int64} (hd : decode cc pc = .ok (.lstore_n i, 1)) (hn : (i : Nat) + 1 < nL)
    (k : J G p l e R s m args below meth c A nL Q k9 n9 (pc + 1) (lvi (i : Nat) (.long x) (lvw (i : Nat) lv)) st M)
    : J G p l e R s m args below meth c A nL Q k9 n9 pc lv (.long x :: st) M := by
  intro H locs ls hP hS hv
  exact lv_lstore_n C.1 C.2.1 hd rfl hv hn rfl (fun ls9 h9 => k H locs ls9 hP hS (lvs2_has h9))
theorem j_dstore (C : Cx G p s m args meth c A cc nL own Ts) {i : Nat} {x : UInt64} (hd : decode cc pc = .ok (.dstore i, 2)) (hn : i + 1 < nL)
    (k : J G p l e R s m args below meth c A nL Q k9 n9 (pc + 2) (lvi i (.double x) (lvw i lv)) st M)
    : J G p l e R s m args below meth c A nL Q k9 n9 pc lv (.double x :: st) M := by
  intro H locs ls hP hS hv
  exact lv_dstore C.1 C.2.1 hd hv hn rfl (fun ls9 h9 => k H locs ls9 hP hS (lvs2_has h9))
theorem j_dstore_n (C : Cx G p s m args meth c A cc nL own Ts) {i : Fin 4} {x : UInt64} (hd : decode cc pc = .ok (.dstore_n i, 1)) (hn : (i : Nat) + 1 < nL)
    (k : J G p l e R s m args below meth c A nL Q k9 n9 (pc + 1) (lvi (i : Nat) (.double x) (lvw (i : Nat) lv)) st M)
    : J G p l e R s m args below meth c A nL Q k9 n9 pc lv (.double x :: st) M := by
  intro H locs ls hP hS hv
  exact lv_dstore_n C.1 C.2.1 hd rfl hv hn rfl (fun ls9 h9 => k H locs ls9 hP hS (lvs2_has h9))
theorem j_astore (C : Cx G p s m args meth c A cc nL own Ts) {i : Nat} {x : Nat} (hd : decode cc pc = .ok (.astore i, 2)) (hn : i < nL)
    (k : J G p l e R s m args below meth c A nL Q k9 n9 (pc + 2) (lvi i (.ref x) (lvr i lv)) st M)
    : J G p l e R s m args below meth c A nL Q k9 n9 pc lv (.ref x :: st) M := by
  intro H locs ls hP hS hv
  exact lv_astore C.1 C.2.1 hd hv hn rfl (fun ls9 h9 => k H locs ls9 hP hS (lvs_has h9))
theorem j_astore_n (C : Cx G p s m args meth c A cc nL own Ts) {i : Fin 4} {x : Nat} (hd : decode cc pc = .ok (.astore_n i, 1)) (hn : (i : Nat) < nL)
    (k : J G p l e R s m args below meth c A nL Q k9 n9 (pc + 1) (lvi (i : Nat) (.ref x) (lvr (i : Nat) lv)) st M)
    : J G p l e R s m args below meth c A nL Q k9 n9 pc lv (.ref x :: st) M := by
  intro H locs ls hP hS hv
  exact lv_astore_n C.1 C.2.1 hd rfl hv hn rfl (fun ls9 h9 => k H locs ls9 hP hS (lvs_has h9))
theorem j_iinc (C : Cx G p s m args meth c A cc nL own Ts) {i : Nat} {n : Int} {x v : Int32} (hd : decode cc pc = .ok (.iinc i n, 3)) (hl : lvg lv i = some (.int x)) (hv9 : x + Int32.ofInt n = v) (hn : i < nL)
    (k : J G p l e R s m args below meth c A nL Q k9 n9 (pc + 3) (lvi i (.int v) (lvr i lv)) st M)
    : J G p l e R s m args below meth c A nL Q k9 n9 pc lv st M := by
  intro H locs ls hP hS hv
  obtain ⟨k1, hk1⟩ := List.getElem?_of_mem (lvg_mem hl)
  exact lv_iinc C.1 C.2.1 hd hv hk1 hv9 hn rfl (fun ls9 h9 => k H locs ls9 hP hS (lvs_has h9))
theorem j_iincN (C : Cx G p s m args meth c A cc nL own Ts) {i : Nat} {n : Nat} {x : Nat} (hd : decode cc pc = .ok (.iinc i n, 3)) (hl : lvg lv i = some (.int (nI x))) (hn : i < nL)
    (k : J G p l e R s m args below meth c A nL Q k9 n9 (pc + 3) (lvi i (.int (nI (x + n))) (lvr i lv)) st M)
    : J G p l e R s m args below meth c A nL Q k9 n9 pc lv st M := by
  exact j_iinc C hd hl (by rw [← nI_add]; rfl) hn k
theorem j_iadd (C : Cx G p s m args meth c A cc nL own Ts) {x y : Int32} (hd : decode cc pc = .ok (.iadd, 1))
    (k : J G p l e R s m args below meth c A nL Q k9 n9 (pc + 1) lv (.int (x + y) :: st) M)
    : J G p l e R s m args below meth c A nL Q k9 n9 pc lv (.int y :: .int x :: st) M := by
  intro H locs ls hP hS hv
  exact lv_iadd C.1 C.2.1 hd (k H locs ls hP hS hv)
theorem j_isub (C : Cx G p s m args meth c A cc nL own Ts) {x y : Int32} (hd : decode cc pc = .ok (.isub, 1))
    (k : J G p l e R s m args below meth c A nL Q k9 n9 (pc + 1) lv (.int (x - y) :: st) M)
    : J G p l e R s m args below meth c A nL Q k9 n9 pc lv (.int y :: .int x :: st) M := by
  intro H locs ls hP hS hv
  exact lv_isub C.1 C.2.1 hd (k H locs ls hP hS hv)
theorem j_imul (C : Cx G p s m args meth c A cc nL own Ts) {x y : Int32} (hd : decode cc pc = .ok (.imul, 1))
    (k : J G p l e R s m args below meth c A nL Q k9 n9 (pc + 1) lv (.int (x * y) :: st) M)
    : J G p l e R s m args below meth c A nL Q k9 n9 pc lv (.int y :: .int x :: st) M := by
  intro H locs ls hP hS hv
  exact lv_imul C.1 C.2.1 hd (k H locs ls hP hS hv)
theorem j_iand (C : Cx G p s m args meth c A cc nL own Ts) {x y : Int32} (hd : decode cc pc = .ok (.iand, 1))
    (k : J G p l e R s m args below meth c A nL Q k9 n9 (pc + 1) lv (.int (x &&& y) :: st) M)
    : J G p l e R s m args below meth c A nL Q k9 n9 pc lv (.int y :: .int x :: st) M := by
  intro H locs ls hP hS hv
  exact lv_iand C.1 C.2.1 hd (k H locs ls hP hS hv)
theorem j_ior (C : Cx G p s m args meth c A cc nL own Ts) {x y : Int32} (hd : decode cc pc = .ok (.ior, 1))
    (k : J G p l e R s m args below meth c A nL Q k9 n9 (pc + 1) lv (.int (x ||| y) :: st) M)
    : J G p l e R s m args below meth c A nL Q k9 n9 pc lv (.int y :: .int x :: st) M := by
  intro H locs ls hP hS hv
  exact lv_ior C.1 C.2.1 hd (k H locs ls hP hS hv)
theorem j_ixor (C : Cx G p s m args meth c A cc nL own Ts) {x y : Int32} (hd : decode cc pc = .ok (.ixor, 1))
    (k : J G p l e R s m args below meth c A nL Q k9 n9 (pc + 1) lv (.int (x ^^^ y) :: st) M)
    : J G p l e R s m args below meth c A nL Q k9 n9 pc lv (.int y :: .int x :: st) M := by
  intro H locs ls hP hS hv
  exact lv_ixor C.1 C.2.1 hd (k H locs ls hP hS hv)
theorem j_ishl (C : Cx G p s m args meth c A cc nL own Ts) {x y : Int32} (hd : decode cc pc = .ok (.ishl, 1))
    (k : J G p l e R s m args below meth c A nL Q k9 n9 (pc + 1) lv (.int (x <<< (y &&& 31)) :: st) M)
    : J G p l e R s m args below meth c A nL Q k9 n9 pc lv (.int y :: .int x :: st) M := by
  intro H locs ls hP hS hv
  exact lv_ishl C.1 C.2.1 hd (k H locs ls hP hS hv)
theorem j_ishr (C : Cx G p s m args meth c A cc nL own Ts) {x y : Int32} (hd : decode cc pc = .ok (.ishr, 1))
    (k : J G p l e R s m args below meth c A nL Q k9 n9 (pc + 1) lv (.int (x >>> (y &&& 31)) :: st) M)
    : J G p l e R s m args below meth c A nL Q k9 n9 pc lv (.int y :: .int x :: st) M := by
  intro H locs ls hP hS hv
  exact lv_ishr C.1 C.2.1 hd (k H locs ls hP hS hv)
theorem j_idiv (C : Cx G p s m args meth c A cc nL own Ts) {x y : Int32} (hd : decode cc pc = .ok (.idiv, 1)) (hne : ¬ y = 0)
    (k : J G p l e R s m args below meth c A nL Q k9 n9 (pc + 1) lv (.int (x / y) :: st) M)
    : J G p l e R s m args below meth c A nL Q k9 n9 pc lv (.int y :: .int x :: st) M := by
  intro H locs ls hP hS hv
  exact lv_idiv C.1 C.2.1 hd hne (k H locs ls hP hS hv)
theorem j_irem (C : Cx G p s m args meth c A cc nL own Ts) {x y : Int32} (hd : decode cc pc = .ok (.irem, 1)) (hne : ¬ y = 0)
    (k : J G p l e R s m args below meth c A nL Q k9 n9 (pc + 1) lv (.int (x - x / y * y) :: st) M)
    : J G p l e R s m args below meth c A nL Q k9 n9 pc lv (.int y :: .int x :: st) M := by
  intro H locs ls hP hS hv
  exact lv_irem C.1 C.2.1 hd hne (k H locs ls hP hS hv)
theorem j_iushr (C : Cx G p s m args meth c A cc nL own Ts) {x y : Int32} (hd : decode cc pc = .ok (.iushr, 1))
    (k : J G p l e R s m args below meth c A nL Q k9 n9 (pc + 1) lv (.int (x.toUInt32 >>> (y.toUInt32 &&& Int32.toUInt32 31)).toInt32 :: st) M)
    : J G p l e R s m args below meth c A nL Q k9 n9 pc lv (.int y :: .int x :: st) M := by
  intro H locs ls hP hS hv
  exact lv_iushr C.1 C.2.1 hd rfl (k H locs ls hP hS hv)
theorem j_ineg (C : Cx G p s m args meth c A cc nL own Ts) {x : Int32} (hd : decode cc pc = .ok (.ineg, 1))
    (k : J G p l e R s m args below meth c A nL Q k9 n9 (pc + 1) lv (.int (-x) :: st) M)
    : J G p l e R s m args below meth c A nL Q k9 n9 pc lv (.int x :: st) M := by
  intro H locs ls hP hS hv
  exact lv_ineg C.1 C.2.1 hd (k H locs ls hP hS hv)
theorem j_ladd (C : Cx G p s m args meth c A cc nL own Ts) {x y : Int64} (hd : decode cc pc = .ok (.ladd, 1))
    (k : J G p l e R s m args below meth c A nL Q k9 n9 (pc + 1) lv (.long (x + y) :: st) M)
    : J G p l e R s m args below meth c A nL Q k9 n9 pc lv (.long y :: .long x :: st) M := by
  intro H locs ls hP hS hv
  exact lv_ladd C.1 C.2.1 hd (k H locs ls hP hS hv)
theorem j_lsub (C : Cx G p s m args meth c A cc nL own Ts) {x y : Int64} (hd : decode cc pc = .ok (.lsub, 1))
    (k : J G p l e R s m args below meth c A nL Q k9 n9 (pc + 1) lv (.long (x - y) :: st) M)
    : J G p l e R s m args below meth c A nL Q k9 n9 pc lv (.long y :: .long x :: st) M := by
  intro H locs ls hP hS hv
  exact lv_lsub C.1 C.2.1 hd (k H locs ls hP hS hv)
theorem j_lmul (C : Cx G p s m args meth c A cc nL own Ts) {x y : Int64} (hd : decode cc pc = .ok (.lmul, 1))
    (k : J G p l e R s m args below meth c A nL Q k9 n9 (pc + 1) lv (.long (x * y) :: st) M)
    : J G p l e R s m args below meth c A nL Q k9 n9 pc lv (.long y :: .long x :: st) M := by
  intro H locs ls hP hS hv
  exact lv_lmul C.1 C.2.1 hd (k H locs ls hP hS hv)
theorem j_lshl (C : Cx G p s m args meth c A cc nL own Ts) {x : Int64} {y : Int32} (hd : decode cc pc = .ok (.lshl, 1))
    (k : J G p l e R s m args below meth c A nL Q k9 n9 (pc + 1) lv (.long (x <<< (y.toInt64 &&& 63)) :: st) M)
    : J G p l e R s m args below meth c A nL Q k9 n9 pc lv (.int y :: .long x :: st) M := by
  intro H locs ls hP hS hv
  exact lv_lshl C.1 C.2.1 hd rfl (k H locs ls hP hS hv)
theorem j_iaddN (C : Cx G p s m args meth c A cc nL own Ts) {a b : Nat} (hd : decode cc pc = .ok (.iadd, 1))
    (k : J G p l e R s m args below meth c A nL Q k9 n9 (pc + 1) lv (.int (nI (a + b)) :: st) M)
    : J G p l e R s m args below meth c A nL Q k9 n9 pc lv (.int (nI b) :: .int (nI a) :: st) M := by
  refine j_iadd C hd ?_
  rw [nI_add]
  exact k
theorem j_isubN (C : Cx G p s m args meth c A cc nL own Ts) {a b : Nat} (hd : decode cc pc = .ok (.isub, 1)) (h : b ≤ a)
    (k : J G p l e R s m args below meth c A nL Q k9 n9 (pc + 1) lv (.int (nI (a - b)) :: st) M)
    : J G p l e R s m args below meth c A nL Q k9 n9 pc lv (.int (nI b) :: .int (nI a) :: st) M := by
  refine j_isub C hd ?_
  rw [pk_sub h]
  exact k
theorem j_imulN (C : Cx G p s m args meth c A cc nL own Ts) {a b : Nat} (hd : decode cc pc = .ok (.imul, 1))
    (k : J G p l e R s m args below meth c A nL Q k9 n9 (pc + 1) lv (.int (nI (a * b)) :: st) M)
    : J G p l e R s m args below meth c A nL Q k9 n9 pc lv (.int (nI b) :: .int (nI a) :: st) M := by
  refine j_imul C hd ?_
  rw [pk_mul]
  exact k
theorem j_idivN (C : Cx G p s m args meth c A cc nL own Ts) {a b : Nat} (hd : decode cc pc = .ok (.idiv, 1)) (ha : a < 2 ^ 31) (h0 : 0 < b) (hb : b < 2 ^ 31)
    (k : J G p l e R s m args below meth c A nL Q k9 n9 (pc + 1) lv (.int (nI (a / b)) :: st) M)
    : J G p l e R s m args below meth c A nL Q k9 n9 pc lv (.int (nI b) :: .int (nI a) :: st) M := by
  refine j_idiv C hd (nI_ne0 h0 hb) ?_
  rw [pk_div ha h0 hb]
  exact k
theorem j_iremN (C : Cx G p s m args meth c A cc nL own Ts) {a b : Nat} (hd : decode cc pc = .ok (.irem, 1)) (ha : a < 2 ^ 31) (h0 : 0 < b) (hb : b < 2 ^ 31)
    (k : J G p l e R s m args below meth c A nL Q k9 n9 (pc + 1) lv (.int (nI (a % b)) :: st) M)
    : J G p l e R s m args below meth c A nL Q k9 n9 pc lv (.int (nI b) :: .int (nI a) :: st) M := by
  refine j_irem C hd (nI_ne0 h0 hb) ?_
  rw [pk_rem ha h0 hb]
  exact k
theorem j_top (C : Cx G p s m args meth c A cc nL own Ts) {x : Int32} (y : Int32) (h : x = y)
    (k : J G p l e R s m args below meth c A nL Q k9 n9 pc lv (.int y :: st) M)
    : J G p l e R s m args below meth c A nL Q k9 n9 pc lv (.int x :: st) M := by
  subst h
  exact k
theorem j_topl (C : Cx G p s m args meth c A cc nL own Ts) {x : Int64} (y : Int64) (h : x = y)
    (k : J G p l e R s m args below meth c A nL Q k9 n9 pc lv (.long y :: st) M)
    : J G p l e R s m args below meth c A nL Q k9 n9 pc lv (.long x :: st) M := by
  subst h
  exact k
theorem j_topd (C : Cx G p s m args meth c A cc nL own Ts) {x : UInt64} (y : UInt64) (h : x = y)
    (k : J G p l e R s m args below meth c A nL Q k9 n9 pc lv (.double y :: st) M)
    : J G p l e R s m args below meth c A nL Q k9 n9 pc lv (.double x :: st) M := by
  subst h
  exact k
theorem j_topr (C : Cx G p s m args meth c A cc nL own Ts) {x : Nat} (y : Nat) (h : x = y)
    (k : J G p l e R s m args below meth c A nL Q k9 n9 pc lv (.ref y :: st) M)
    : J G p l e R s m args below meth c A nL Q k9 n9 pc lv (.ref x :: st) M := by
  subst h
  exact k
theorem j_mem (C : Cx G p s m args meth c A cc nL own Ts) {M9 : MM} (h : M = M9)
    (k : J G p l e R s m args below meth c A nL Q k9 n9 pc lv st M9)
    : J G p l e R s m args below meth c A nL Q k9 n9 pc lv st M := by
  subst h
  exact k
theorem j_i2l (C : Cx G p s m args meth c A cc nL own Ts) {x : Int32} (hd : decode cc pc = .ok (.i2l, 1))
    (k : J G p l e R s m args below meth c A nL Q k9 n9 (pc + 1) lv (.long x.toInt64 :: st) M)
    : J G p l e R s m args below meth c A nL Q k9 n9 pc lv (.int x :: st) M := by
  intro H locs ls hP hS hv
  exact lv_i2l C.1 C.2.1 hd rfl (k H locs ls hP hS hv)
theorem j_i2c (C : Cx G p s m args meth c A cc nL own Ts) {x : Int32} (hd : decode cc pc = .ok (.i2c, 1))
    (k : J G p l e R s m args below meth c A nL Q k9 n9 (pc + 1) lv (.int (x.toUInt32 % 65536).toInt32 :: st) M)
    : J G p l e R s m args below meth c A nL Q k9 n9 pc lv (.int x :: st) M := by
  intro H locs ls hP hS hv
  exact lv_i2c C.1 C.2.1 hd rfl (k H locs ls hP hS hv)
theorem j_i2d (C : Cx G p s m args meth c A cc nL own Ts) {x : Int32} (hd : decode cc pc = .ok (.i2d, 1))
    (k : J G p l e R s m args below meth c A nL Q k9 n9 (pc + 1) lv (.double (FP.i2d x) :: st) M)
    : J G p l e R s m args below meth c A nL Q k9 n9 pc lv (.int x :: st) M := by
  intro H locs ls hP hS hv
  exact lv_i2d C.1 C.2.1 hd (k H locs ls hP hS hv)
theorem j_d2l (C : Cx G p s m args meth c A cc nL own Ts) {x : UInt64} (hd : decode cc pc = .ok (.d2l, 1))
    (k : J G p l e R s m args below meth c A nL Q k9 n9 (pc + 1) lv (.long (FP.d2l x) :: st) M)
    : J G p l e R s m args below meth c A nL Q k9 n9 pc lv (.double x :: st) M := by
  intro H locs ls hP hS hv
  exact lv_d2l C.1 C.2.1 hd (k H locs ls hP hS hv)
theorem j_dmul (C : Cx G p s m args meth c A cc nL own Ts) {x y : UInt64} (hd : decode cc pc = .ok (.dmul, 1)) (hne : vf_n64 (FP.dmul x y))
    (k : J G p l e R s m args below meth c A nL Q k9 n9 (pc + 1) lv (.double (FP.dmul x y) :: st) M)
    : J G p l e R s m args below meth c A nL Q k9 n9 pc lv (.double y :: .double x :: st) M := by
  intro H locs ls hP hS hv
  exact lv_dmul C.1 C.2.1 hd hne (k H locs ls hP hS hv)
theorem j_ddiv (C : Cx G p s m args meth c A cc nL own Ts) {x y : UInt64} (hd : decode cc pc = .ok (.ddiv, 1)) (hne : vf_n64 (FP.ddiv x y))
    (k : J G p l e R s m args below meth c A nL Q k9 n9 (pc + 1) lv (.double (FP.ddiv x y) :: st) M)
    : J G p l e R s m args below meth c A nL Q k9 n9 pc lv (.double y :: .double x :: st) M := by
  intro H locs ls hP hS hv
  exact lv_ddiv C.1 C.2.1 hd hne (k H locs ls hP hS hv)
theorem j_dsub (C : Cx G p s m args meth c A cc nL own Ts) {x y : UInt64} (hd : decode cc pc = .ok (.dsub, 1)) (hne : vf_n64 (FP.dsub x y))
    (k : J G p l e R s m args below meth c A nL Q k9 n9 (pc + 1) lv (.double (FP.dsub x y) :: st) M)
    : J G p l e R s m args below meth c A nL Q k9 n9 pc lv (.double y :: .double x :: st) M := by
  intro H locs ls hP hS hv
  exact lv_dsub C.1 C.2.1 hd hne (k H locs ls hP hS hv)
theorem j_dcmp (C : Cx G p s m args meth c A cc nL own Ts) {x y : UInt64} {op : CmpOp} (hd : decode cc pc = .ok (.dcmp op, 1))
    (k : J G p l e R s m args below meth c A nL Q k9 n9 (pc + 1) lv (.int (Op.cmpValue (FP.dcmp x y) op) :: st) M)
    : J G p l e R s m args below meth c A nL Q k9 n9 pc lv (.double y :: .double x :: st) M := by
  intro H locs ls hP hS hv
  exact lv_dcmp C.1 C.2.1 hd (k H locs ls hP hS hv)
theorem j_dup (C : Cx G p s m args meth c A cc nL own Ts) {va : Value} (hd : decode cc pc = .ok (.dup, 1)) (hva : va.category = 1)
    (k : J G p l e R s m args below meth c A nL Q k9 n9 (pc + 1) lv (va :: va :: st) M)
    : J G p l e R s m args below meth c A nL Q k9 n9 pc lv (va :: st) M := by
  intro H locs ls hP hS hv
  exact lv_dup C.1 C.2.1 hd hva (k H locs ls hP hS hv)
theorem j_dup2 (C : Cx G p s m args meth c A cc nL own Ts) {va vb : Value} (hd : decode cc pc = .ok (.dup2, 1)) (hva : va.category = 1) (hvb : vb.category = 1)
    (k : J G p l e R s m args below meth c A nL Q k9 n9 (pc + 1) lv (va :: vb :: va :: vb :: st) M)
    : J G p l e R s m args below meth c A nL Q k9 n9 pc lv (va :: vb :: st) M := by
  intro H locs ls hP hS hv
  exact lv_dup2_11 C.1 C.2.1 hd hva hvb (k H locs ls hP hS hv)
theorem j_if_eq (C : Cx G p s m args meth c A cc nL own Ts) {x : Int32} {off : Int} {tgt : Nat} (hd : decode cc pc = .ok (.ifCond .eq off, 3)) (ht : (pc : Int) + off = (tgt : Int))
    (kt : x = 0 → J G p l e R s m args below meth c A nL Q k9 n9 tgt lv st M)
    (kf : ¬ x = 0 → J G p l e R s m args below meth c A nL Q k9 n9 (pc + 3) lv st M)
    : J G p l e R s m args below meth c A nL Q k9 n9 pc lv (.int x :: st) M := by
  intro H locs ls hP hS hv
  exact lv_if_eq C.1 C.2.1 hd ht (fun h => kt h H locs ls hP hS hv) (fun h => kf h H locs ls hP hS hv)
theorem j_icmp_eq (C : Cx G p s m args meth c A cc nL own Ts) {x y : Int32} {off : Int} {tgt : Nat} (hd : decode cc pc = .ok (.if_icmp .eq off, 3)) (ht : (pc : Int) + off = (tgt : Int))
    (kt : x = y → J G p l e R s m args below meth c A nL Q k9 n9 tgt lv st M)
    (kf : ¬ x = y → J G p l e R s m args below meth c A nL Q k9 n9 (pc + 3) lv st M)
    : J G p l e R s m args below meth c A nL Q k9 n9 pc lv (.int y :: .int x :: st) M := by
  intro H locs ls hP hS hv
  exact lv_icmp_eq C.1 C.2.1 hd ht (fun h => kt h H locs ls hP hS hv) (fun h => kf h H locs ls hP hS hv)
theorem j_if_ne (C : Cx G p s m args meth c A cc nL own Ts) {x : Int32} {off : Int} {tgt : Nat} (hd : decode cc pc = .ok (.ifCond .ne off, 3)) (ht : (pc : Int) + off = (tgt : Int))
    (kt : ¬ x = 0 → J G p l e R s m args below meth c A nL Q k9 n9 tgt lv st M)
    (kf : x = 0 → J G p l e R s m args below meth c A nL Q k9 n9 (pc + 3) lv st M)
    : J G p l e R s m args below meth c A nL Q k9 n9 pc lv (.int x :: st) M := by
  intro H locs ls hP hS hv
  exact lv_if_ne C.1 C.2.1 hd ht (fun h => kt h H locs ls hP hS hv) (fun h => kf h H locs ls hP hS hv)
theorem j_icmp_ne (C : Cx G p s m args meth c A cc nL own Ts) {x y : Int32} {off : Int} {tgt : Nat} (hd : decode cc pc = .ok (.if_icmp .ne off, 3)) (ht : (pc : Int) + off = (tgt : Int))
    (kt : ¬ x = y → J G p l e R s m args below meth c A nL Q k9 n9 tgt lv st M)
    (kf : x = y → J G p l e R s m args below meth c A nL Q k9 n9 (pc + 3) lv st M)
    : J G p l e R s m args below meth c A nL Q k9 n9 pc lv (.int y :: .int x :: st) M := by
  intro H locs ls hP hS hv
  exact lv_icmp_ne C.1 C.2.1 hd ht (fun h => kt h H locs ls hP hS hv) (fun h => kf h H locs ls hP hS hv)
theorem j_if_lt (C : Cx G p s m args meth c A cc nL own Ts) {x : Int32} {off : Int} {tgt : Nat} (hd : decode cc pc = .ok (.ifCond .lt off, 3)) (ht : (pc : Int) + off = (tgt : Int))
    (kt : x < 0 → J G p l e R s m args below meth c A nL Q k9 n9 tgt lv st M)
    (kf : ¬ x < 0 → J G p l e R s m args below meth c A nL Q k9 n9 (pc + 3) lv st M)
    : J G p l e R s m args below meth c A nL Q k9 n9 pc lv (.int x :: st) M := by
  intro H locs ls hP hS hv
  exact lv_if_lt C.1 C.2.1 hd ht (fun h => kt h H locs ls hP hS hv) (fun h => kf h H locs ls hP hS hv)
theorem j_icmp_lt (C : Cx G p s m args meth c A cc nL own Ts) {x y : Int32} {off : Int} {tgt : Nat} (hd : decode cc pc = .ok (.if_icmp .lt off, 3)) (ht : (pc : Int) + off = (tgt : Int))
    (kt : x < y → J G p l e R s m args below meth c A nL Q k9 n9 tgt lv st M)
    (kf : ¬ x < y → J G p l e R s m args below meth c A nL Q k9 n9 (pc + 3) lv st M)
    : J G p l e R s m args below meth c A nL Q k9 n9 pc lv (.int y :: .int x :: st) M := by
  intro H locs ls hP hS hv
  exact lv_icmp_lt C.1 C.2.1 hd ht (fun h => kt h H locs ls hP hS hv) (fun h => kf h H locs ls hP hS hv)
theorem j_if_ge (C : Cx G p s m args meth c A cc nL own Ts) {x : Int32} {off : Int} {tgt : Nat} (hd : decode cc pc = .ok (.ifCond .ge off, 3)) (ht : (pc : Int) + off = (tgt : Int))
    (kt : 0 ≤ x → J G p l e R s m args below meth c A nL Q k9 n9 tgt lv st M)
    (kf : ¬ 0 ≤ x → J G p l e R s m args below meth c A nL Q k9 n9 (pc + 3) lv st M)
    : J G p l e R s m args below meth c A nL Q k9 n9 pc lv (.int x :: st) M := by
  intro H locs ls hP hS hv
  exact lv_if_ge C.1 C.2.1 hd ht (fun h => kt h H locs ls hP hS hv) (fun h => kf h H locs ls hP hS hv)
theorem j_icmp_ge (C : Cx G p s m args meth c A cc nL own Ts) {x y : Int32} {off : Int} {tgt : Nat} (hd : decode cc pc = .ok (.if_icmp .ge off, 3)) (ht : (pc : Int) + off = (tgt : Int))
    (kt : y ≤ x → J G p l e R s m args below meth c A nL Q k9 n9 tgt lv st M)
    (kf : ¬ y ≤ x → J G p l e R s m args below meth c A nL Q k9 n9 (pc + 3) lv st M)
    : J G p l e R s m args below meth c A nL Q k9 n9 pc lv (.int y :: .int x :: st) M := by
  intro H locs ls hP hS hv
  exact lv_icmp_ge C.1 C.2.1 hd ht (fun h => kt h H locs ls hP hS hv) (fun h => kf h H locs ls hP hS hv)
theorem j_if_gt (C : Cx G p s m args meth c A cc nL own Ts) {x : Int32} {off : Int} {tgt : Nat} (hd : decode cc pc = .ok (.ifCond .gt off, 3)) (ht : (pc : Int) + off = (tgt : Int))
    (kt : 0 < x → J G p l e R s m args below meth c A nL Q k9 n9 tgt lv st M)
    (kf : ¬ 0 < x → J G p l e R s m args below meth c A nL Q k9 n9 (pc + 3) lv st M)
    : J G p l e R s m args below meth c A nL Q k9 n9 pc lv (.int x :: st) M := by
  intro H locs ls hP hS hv
  exact lv_if_gt C.1 C.2.1 hd ht (fun h => kt h H locs ls hP hS hv) (fun h => kf h H locs ls hP hS hv)
theorem j_icmp_gt (C : Cx G p s m args meth c A cc nL own Ts) {x y : Int32} {off : Int} {tgt : Nat} (hd : decode cc pc = .ok (.if_icmp .gt off, 3)) (ht : (pc : Int) + off = (tgt : Int))
    (kt : y < x → J G p l e R s m args below meth c A nL Q k9 n9 tgt lv st M)
    (kf : ¬ y < x → J G p l e R s m args below meth c A nL Q k9 n9 (pc + 3) lv st M)
    : J G p l e R s m args below meth c A nL Q k9 n9 pc lv (.int y :: .int x :: st) M := by
  intro H locs ls hP hS hv
  exact lv_icmp_gt C.1 C.2.1 hd ht (fun h => kt h H locs ls hP hS hv) (fun h => kf h H locs ls hP hS hv)
theorem j_if_le (C : Cx G p s m args meth c A cc nL own Ts) {x : Int32} {off : Int} {tgt : Nat} (hd : decode cc pc = .ok (.ifCond .le off, 3)) (ht : (pc : Int) + off = (tgt : Int))
    (kt : x ≤ 0 → J G p l e R s m args below meth c A nL Q k9 n9 tgt lv st M)
    (kf : ¬ x ≤ 0 → J G p l e R s m args below meth c A nL Q k9 n9 (pc + 3) lv st M)
    : J G p l e R s m args below meth c A nL Q k9 n9 pc lv (.int x :: st) M := by
  intro H locs ls hP hS hv
  exact lv_if_le C.1 C.2.1 hd ht (fun h => kt h H locs ls hP hS hv) (fun h => kf h H locs ls hP hS hv)
theorem j_icmp_le (C : Cx G p s m args meth c A cc nL own Ts) {x y : Int32} {off : Int} {tgt : Nat} (hd : decode cc pc = .ok (.if_icmp .le off, 3)) (ht : (pc : Int) + off = (tgt : Int))
    (kt : x ≤ y → J G p l e R s m args below meth c A nL Q k9 n9 tgt lv st M)
    (kf : ¬ x ≤ y → J G p l e R s m args below meth c A nL Q k9 n9 (pc + 3) lv st M)
    : J G p l e R s m args below meth c A nL Q k9 n9 pc lv (.int y :: .int x :: st) M := by
  intro H locs ls hP hS hv
  exact lv_icmp_le C.1 C.2.1 hd ht (fun h => kt h H locs ls hP hS hv) (fun h => kf h H locs ls hP hS hv)
theorem j_goto (C : Cx G p s m args meth c A cc nL own Ts) {off : Int} {tgt : Nat} (hd : decode cc pc = .ok (.goto off, 3)) (ht : (pc : Int) + off = (tgt : Int))
    (k : J G p l e R s m args below meth c A nL Q k9 n9 tgt lv st M)
    : J G p l e R s m args below meth c A nL Q k9 n9 pc lv st M := by
  intro H locs ls hP hS hv
  exact lv_goto C.1 C.2.1 hd ht (k H locs ls hP hS hv)
theorem j_icmp_eqN (C : Cx G p s m args meth c A cc nL own Ts) {a b : Nat} {off : Int} {tgt : Nat} (hd : decode cc pc = .ok (.if_icmp .eq off, 3)) (ht : (pc : Int) + off = (tgt : Int)) (ha : a < 2 ^ 31) (hb : b < 2 ^ 31)
    (kt : a = b → J G p l e R s m args below meth c A nL Q k9 n9 tgt lv st M)
    (kf : ¬ a = b → J G p l e R s m args below meth c A nL Q k9 n9 (pc + 3) lv st M)
    : J G p l e R s m args below meth c A nL Q k9 n9 pc lv (.int (nI b) :: .int (nI a) :: st) M := by
  exact j_icmp_eq C hd ht (fun h => kt ((nI_eq ha hb).mp h)) (fun h => kf (fun q => h ((nI_eq ha hb).mpr q)))
theorem j_if_eqN (C : Cx G p s m args meth c A cc nL own Ts) {a : Nat} {off : Int} {tgt : Nat} (hd : decode cc pc = .ok (.ifCond .eq off, 3)) (ht : (pc : Int) + off = (tgt : Int)) (ha : a < 2 ^ 31)
    (kt : a = 0 → J G p l e R s m args below meth c A nL Q k9 n9 tgt lv st M)
    (kf : ¬ a = 0 → J G p l e R s m args below meth c A nL Q k9 n9 (pc + 3) lv st M)
    : J G p l e R s m args below meth c A nL Q k9 n9 pc lv (.int (nI a) :: st) M := by
  have hb : 0 < 2 ^ 31 := by decide
  exact j_if_eq C hd ht (fun h => kt ((nI_eq ha hb).mp h)) (fun h => kf (fun q => h ((nI_eq ha hb).mpr q)))
theorem j_icmp_neN (C : Cx G p s m args meth c A cc nL own Ts) {a b : Nat} {off : Int} {tgt : Nat} (hd : decode cc pc = .ok (.if_icmp .ne off, 3)) (ht : (pc : Int) + off = (tgt : Int)) (ha : a < 2 ^ 31) (hb : b < 2 ^ 31)
    (kt : ¬ a = b → J G p l e R s m args below meth c A nL Q k9 n9 tgt lv st M)
    (kf : a = b → J G p l e R s m args below meth c A nL Q k9 n9 (pc + 3) lv st M)
    : J G p l e R s m args below meth c A nL Q k9 n9 pc lv (.int (nI b) :: .int (nI a) :: st) M := by
  exact j_icmp_ne C hd ht (fun h => kt (fun q => h ((nI_eq ha hb).mpr q))) (fun h => kf ((nI_eq ha hb).mp h))
theorem j_if_neN (C : Cx G p s m args meth c A cc nL own Ts) {a : Nat} {off : Int} {tgt : Nat} (hd : decode cc pc = .ok (.ifCond .ne off, 3)) (ht : (pc : Int) + off = (tgt : Int)) (ha : a < 2 ^ 31)
    (kt : ¬ a = 0 → J G p l e R s m args below meth c A nL Q k9 n9 tgt lv st M)
    (kf : a = 0 → J G p l e R s m args below meth c A nL Q k9 n9 (pc + 3) lv st M)
    : J G p l e R s m args below meth c A nL Q k9 n9 pc lv (.int (nI a) :: st) M := by
  have hb : 0 < 2 ^ 31 := by decide
  exact j_if_ne C hd ht (fun h => kt (fun q => h ((nI_eq ha hb).mpr q))) (fun h => kf ((nI_eq ha hb).mp h))
theorem j_icmp_ltN (C : Cx G p s m args meth c A cc nL own Ts) {a b : Nat} {off : Int} {tgt : Nat} (hd : decode cc pc = .ok (.if_icmp .lt off, 3)) (ht : (pc : Int) + off = (tgt : Int)) (ha : a < 2 ^ 31) (hb : b < 2 ^ 31)
    (kt : a < b → J G p l e R s m args below meth c A nL Q k9 n9 tgt lv st M)
    (kf : b ≤ a → J G p l e R s m args below meth c A nL Q k9 n9 (pc + 3) lv st M)
    : J G p l e R s m args below meth c A nL Q k9 n9 pc lv (.int (nI b) :: .int (nI a) :: st) M := by
  exact j_icmp_lt C hd ht (fun h => kt ((nI_ltI ha hb).mp h)) (fun h => kf (Nat.not_lt.mp fun q => h ((nI_ltI ha hb).mpr q)))
theorem j_if_ltN (C : Cx G p s m args meth c A cc nL own Ts) {a : Nat} {off : Int} {tgt : Nat} (hd : decode cc pc = .ok (.ifCond .lt off, 3)) (ht : (pc : Int) + off = (tgt : Int)) (ha : a < 2 ^ 31)
    (kt : a < 0 → J G p l e R s m args below meth c A nL Q k9 n9 tgt lv st M)
    (kf : 0 ≤ a → J G p l e R s m args below meth c A nL Q k9 n9 (pc + 3) lv st M)
    : J G p l e R s m args below meth c A nL Q k9 n9 pc lv (.int (nI a) :: st) M := by
  have hb : 0 < 2 ^ 31 := by decide
  exact j_if_lt C hd ht (fun h => kt ((nI_ltI ha hb).mp h)) (fun h => kf (Nat.not_lt.mp fun q => h ((nI_ltI ha hb).mpr q)))
theorem j_icmp_geN (C : Cx G p s m args meth c A cc nL own Ts) {a b : Nat} {off : Int} {tgt : Nat} (hd : decode cc pc = .ok (.if_icmp .ge off, 3)) (ht : (pc : Int) + off = (tgt : Int)) (ha : a < 2 ^ 31) (hb : b < 2 ^ 31)
    (kt : b ≤ a → J G p l e R s m args below meth c A nL Q k9 n9 tgt lv st M)
    (kf : a < b → J G p l e R s m args below meth c A nL Q k9 n9 (pc + 3) lv st M)
    : J G p l e R s m args below meth c A nL Q k9 n9 pc lv (.int (nI b) :: .int (nI a) :: st) M := by
  exact j_icmp_ge C hd ht (fun h => kt ((nI_leI hb ha).mp h)) (fun h => kf (Nat.not_le.mp fun q => h ((nI_leI hb ha).mpr q)))
theorem j_if_geN (C : Cx G p s m args meth c A cc nL own Ts) {a : Nat} {off : Int} {tgt : Nat} (hd : decode cc pc = .ok (.ifCond .ge off, 3)) (ht : (pc : Int) + off = (tgt : Int)) (ha : a < 2 ^ 31)
    (kt : 0 ≤ a → J G p l e R s m args below meth c A nL Q k9 n9 tgt lv st M)
    (kf : a < 0 → J G p l e R s m args below meth c A nL Q k9 n9 (pc + 3) lv st M)
    : J G p l e R s m args below meth c A nL Q k9 n9 pc lv (.int (nI a) :: st) M := by
  have hb : 0 < 2 ^ 31 := by decide
  exact j_if_ge C hd ht (fun h => kt ((nI_leI hb ha).mp h)) (fun h => kf (Nat.not_le.mp fun q => h ((nI_leI hb ha).mpr q)))
theorem j_icmp_gtN (C : Cx G p s m args meth c A cc nL own Ts) {a b : Nat} {off : Int} {tgt : Nat} (hd : decode cc pc = .ok (.if_icmp .gt off, 3)) (ht : (pc : Int) + off = (tgt : Int)) (ha : a < 2 ^ 31) (hb : b < 2 ^ 31)
    (kt : b < a → J G p l e R s m args below meth c A nL Q k9 n9 tgt lv st M)
    (kf : a ≤ b → J G p l e R s m args below meth c A nL Q k9 n9 (pc + 3) lv st M)
    : J G p l e R s m args below meth c A nL Q k9 n9 pc lv (.int (nI b) :: .int (nI a) :: st) M := by
  exact j_icmp_gt C hd ht (fun h => kt ((nI_ltI hb ha).mp h)) (fun h => kf (Nat.not_lt.mp fun q => h ((nI_ltI hb ha).mpr q)))
theorem j_if_gtN (C : Cx G p s m args meth c A cc nL own Ts) {a : Nat} {off : Int} {tgt : Nat} (hd : decode cc pc = .ok (.ifCond .gt off, 3)) (ht : (pc : Int) + off = (tgt : Int)) (ha : a < 2 ^ 31)
    (kt : 0 < a → J G p l e R s m args below meth c A nL Q k9 n9 tgt lv st M)
    (kf : a ≤ 0 → J G p l e R s m args below meth c A nL Q k9 n9 (pc + 3) lv st M)
    : J G p l e R s m args below meth c A nL Q k9 n9 pc lv (.int (nI a) :: st) M := by
  have hb : 0 < 2 ^ 31 := by decide
  exact j_if_gt C hd ht (fun h => kt ((nI_ltI hb ha).mp h)) (fun h => kf (Nat.not_lt.mp fun q => h ((nI_ltI hb ha).mpr q)))
theorem j_icmp_leN (C : Cx G p s m args meth c A cc nL own Ts) {a b : Nat} {off : Int} {tgt : Nat} (hd : decode cc pc = .ok (.if_icmp .le off, 3)) (ht : (pc : Int) + off = (tgt : Int)) (ha : a < 2 ^ 31) (hb : b < 2 ^ 31)
    (kt : a ≤ b → J G p l e R s m args below meth c A nL Q k9 n9 tgt lv st M)
    (kf : b < a → J G p l e R s m args below meth c A nL Q k9 n9 (pc + 3) lv st M)
    : J G p l e R s m args below meth c A nL Q k9 n9 pc lv (.int (nI b) :: .int (nI a) :: st) M := by
  exact j_icmp_le C hd ht (fun h => kt ((nI_leI ha hb).mp h)) (fun h => kf (Nat.not_le.mp fun q => h ((nI_leI ha hb).mpr q)))
theorem j_if_leN (C : Cx G p s m args meth c A cc nL own Ts) {a : Nat} {off : Int} {tgt : Nat} (hd : decode cc pc = .ok (.ifCond .le off, 3)) (ht : (pc : Int) + off = (tgt : Int)) (ha : a < 2 ^ 31)
    (kt : a ≤ 0 → J G p l e R s m args below meth c A nL Q k9 n9 tgt lv st M)
    (kf : 0 < a → J G p l e R s m args below meth c A nL Q k9 n9 (pc + 3) lv st M)
    : J G p l e R s m args below meth c A nL Q k9 n9 pc lv (.int (nI a) :: st) M := by
  have hb : 0 < 2 ^ 31 := by decide
  exact j_if_le C hd ht (fun h => kt ((nI_leI ha hb).mp h)) (fun h => kf (Nat.not_le.mp fun q => h ((nI_leI ha hb).mpr q)))
theorem j_if_eqB (C : Cx G p s m args meth c A cc nL own Ts) {b : Bool} {off : Int} {tgt : Nat} (hd : decode cc pc = .ok (.ifCond .eq off, 3)) (ht : (pc : Int) + off = (tgt : Int))
    (kt : b = false → J G p l e R s m args below meth c A nL Q k9 n9 tgt lv st M)
    (kf : b = true → J G p l e R s m args below meth c A nL Q k9 n9 (pc + 3) lv st M)
    : J G p l e R s m args below meth c A nL Q k9 n9 pc lv (.int (bI b) :: st) M := by
  cases b with
  | true => exact j_if_eq C hd ht (fun h => absurd h (by decide)) (fun _ => kf rfl)
  | false => exact j_if_eq C hd ht (fun _ => kt rfl) (fun h => absurd h (by decide))
theorem j_if_neB (C : Cx G p s m args meth c A cc nL own Ts) {b : Bool} {off : Int} {tgt : Nat} (hd : decode cc pc = .ok (.ifCond .ne off, 3)) (ht : (pc : Int) + off = (tgt : Int))
    (kt : b = true → J G p l e R s m args below meth c A nL Q k9 n9 tgt lv st M)
    (kf : b = false → J G p l e R s m args below meth c A nL Q k9 n9 (pc + 3) lv st M)
    : J G p l e R s m args below meth c A nL Q k9 n9 pc lv (.int (bI b) :: st) M := by
  cases b with
  | true => exact j_if_ne C hd ht (fun _ => kt rfl) (fun h => absurd h (by decide))
  | false => exact j_if_ne C hd ht (fun h => absurd rfl h) (fun _ => kf rfl)
theorem j_getf (C : Cx G p s m args meth c A cc nL own Ts) {i ci index k : Nat} {ref D9 : String} {T : u_T} {N : Nat} {fs : List Value} {v : Value} (hd : decode cc pc = .ok (.getfield index, 3)) (hc : cellOf G M i = .inr (ci, fs)) (hi : i < NN) (hcl : vwCl[ci]? = some (D9, T, N)) (hin : ∀ w ∈ u_ws D9 T N, w ∈ Ts) (hk : k < N) (hlink : Cond.fieldLink own index ref (T k).2.1 (T k).2.2.1 ∈ Ts) (href : (T k).1 = ref) (hv9 : fs[k]? = some v)
    (k9k : J G p l e R s m args below meth c A nL Q k9 n9 (pc + 3) lv (v :: st) M)
    : J G p l e R s m args below meth c A nL Q k9 n9 pc lv (.ref (G.2.2 i) :: st) M := by
  intro H locs ls hP hS hv
  exact va_get C.1 C.2.1 C.2.2.2.2.1 hin C.2.2.2.1 C.K hP i (WS_get hi hc) hcl k hk (C.w hlink) (fun x9 h9 => by rw [← href]; exact h9) hv9 hd (k9k H locs ls hP hS hv)
theorem j_getfN (C : Cx G p s m args meth c A cc nL own Ts) {i ci index k : Nat} {ref D9 host : String} {T : u_T} {N : Nat} {fs : List Value} {v : Value} (hd : decode cc pc = .ok (.getfield index, 3)) (hc : cellOf G M i = .inr (ci, fs)) (hi : i < NN) (hcl : vwCl[ci]? = some (D9, T, N)) (hin : ∀ w ∈ u_ws D9 T N, w ∈ Ts) (hk : k < N) (hlink : Cond.fieldLinkNest own index ref (T k).2.1 (T k).2.2.1 host ∈ nestF) (href : (T k).1 = ref) (hv9 : fs[k]? = some v)
    (k9k : J G p l e R s m args below meth c A nL Q k9 n9 (pc + 3) lv (v :: st) M)
    : J G p l e R s m args below meth c A nL Q k9 n9 pc lv (.ref (G.2.2 i) :: st) M := by
  intro H locs ls hP hS hv
  exact va_getN C.1 C.2.1 C.2.2.2.2.1 hin C.2.2.2.1 C.K hP i (WS_get hi hc) hcl k hk (va_Nw.use rfl (C.2.2.2.2.2.2.1.2 _ hlink)) (fun x9 h9 => by rw [← href]; exact h9) hv9 hd (k9k H locs ls hP hS hv)
theorem j_iald (C : Cx G p s m args meth c A cc nL own Ts) {i n : Nat} {x : Int32} (hd : decode cc pc = .ok (.iaload, 1)) (hi : ilen i = some n) (hx : vp_in x n)
    (k : J G p l e R s m args below meth c A nL Q k9 n9 (pc + 1) lv (.int (M.1 i x.toNatClampNeg) :: st) M)
    : J G p l e R s m args below meth c A nL Q k9 n9 pc lv (.int x :: .ref (G.2.2 i) :: st) M := by
  intro H locs ls hP hS hv
  exact va_iald C.1 C.2.1 C.K hP i 0 (WS_get (ilen_cell (G := G) (M := M) hi).1 (ilen_cell hi).2) rfl hx hd (k H locs ls hP hS hv)
theorem j_ialdN (C : Cx G p s m args meth c A cc nL own Ts) {i n a : Nat} (hd : decode cc pc = .ok (.iaload, 1)) (hi : ilen i = some n) (hx : a < n) (hn : n < 2 ^ 31)
    (k : J G p l e R s m args below meth c A nL Q k9 n9 (pc + 1) lv (.int (M.1 i a) :: st) M)
    : J G p l e R s m args below meth c A nL Q k9 n9 pc lv (.int (nI a) :: .ref (G.2.2 i) :: st) M := by
  refine j_iald C hd hi (vp_in_nI hx hn) ?_
  rw [nI_clamp (Nat.lt_trans hx hn)]
  exact k
theorem j_zaldN (C : Cx G p s m args meth c A cc nL own Ts) {i n a : Nat} (hd : decode cc pc = .ok (.baload, 1)) (hi : zlen i = some n) (hx : a < n) (hn : n < 2 ^ 31)
    (k : J G p l e R s m args below meth c A nL Q k9 n9 (pc + 1) lv (.int (M.1 i a) :: st) M)
    : J G p l e R s m args below meth c A nL Q k9 n9 pc lv (.int (nI a) :: .ref (G.2.2 i) :: st) M := by
  intro H locs ls hP hS hv
  have k2 := k H locs ls hP hS hv
  rw [← nI_clamp (Nat.lt_trans hx hn)] at k2
  exact va_zald C.1 C.2.1 C.K hP i 1 (WS_get (zlen_cell (G := G) (M := M) hi).1 (zlen_cell hi).2) rfl (vp_in_nI hx hn) hd k2
theorem j_iast (C : Cx G p s m args meth c A cc nL own Ts) {i n : Nat} {x v : Int32} (hd : decode cc pc = .ok (.iastore, 1)) (hi : ilen i = some n) (hx : vp_in x n)
    (k : J G p l e R s m args below meth c A nL Q k9 n9 (pc + 1) lv st (setR M i x.toNatClampNeg v))
    : J G p l e R s m args below meth c A nL Q k9 n9 pc lv (.int v :: .int x :: .ref (G.2.2 i) :: st) M := by
  intro H locs ls hP hS hv
  refine va_iast C.1 C.2.1 C.K hP C.D hS i 0 (WS_get (ilen_cell (G := G) (M := M) hi).1 (ilen_cell hi).2) rfl hx hd (fun H1 locs1 hP1 _ hS1 => ?_)
  rw [WS_setR (ilen_cell (G := G) (M := M) hi).1 (by rw [(ilen_cell hi).2, setR_eq])] at hP1
  exact k H1 locs1 ls hP1 hS1 hv
theorem j_iastN (C : Cx G p s m args meth c A cc nL own Ts) {i n a : Nat} {v : Int32} (hd : decode cc pc = .ok (.iastore, 1)) (hi : ilen i = some n) (hx : a < n) (hn : n < 2 ^ 31)
    (k : J G p l e R s m args below meth c A nL Q k9 n9 (pc + 1) lv st (setR M i a v))
    : J G p l e R s m args below meth c A nL Q k9 n9 pc lv (.int v :: .int (nI a) :: .ref (G.2.2 i) :: st) M := by
  refine j_iast C hd hi (vp_in_nI hx hn) ?_
  rw [nI_clamp (Nat.lt_trans hx hn)]
  exact k
end JR
/-! contracts -/
def rmD (d : Nat) : Room := { frames := d, cells := 0, slots := 0, locals := 48 * d }
def AA (G : GG) (sz : Nat) : Nat → Prop := fun q => (∃ i, i < NN ∧ q = G.2.2 i) ∨ sz ≤ q
def Wd (G : GG) (M : MM) (U : State) : Prop := va_P G.1 vwCl (WS G M) U.heap ∧ KW G U ∧ GInj G.2.2
def QQ (G : GG) (Qf : Option Value → MM → Prop) (A : Nat → Prop) : Array Value → State → Outcome → State → Prop := fun _ st oc t => (∃ (v : Option Value) (M' : MM), oc = .returned v ∧ Qf v M' ∧ va_P G.1 vwCl (WS G M') t.heap) ∧ va_F A st t
def Ct (l : Launch) (G : GG) (y : MethodName) (ws : List Cond) (d : Nat) (args : List Value) (M : MM) (Qf : Option Value → MM → Prop) : Prop :=
  ∀ sz : Nat, Met l y ws (rmD d) (va_Pc args (fun U => U.heap.size = sz ∧ Wd G M U)) (QQ G Qf (AA G sz)) 0 0 (AA G sz)
theorem nest_form : ∀ w ∈ nestF, ∃ (a : String) (i : Nat) (b n d h : String), w = .fieldLinkNest a i b n d h := by
  intro w hw
  simp only [nestF, List.mem_cons, List.not_mem_nil, or_false] at hw
  rcases hw with h | h | h | h | h | h | h | h | h | h | h | h | h <;> exact ⟨_, _, _, _, _, _, h⟩
theorem KW.warm {G : GG} {s U : State} (hW : s.WarmedH U.vm) (h : KW G s) : KW G U := ⟨va_K.moved hW.alike h.1, fun w hw => by
  obtain ⟨a, i, b, n, d, h9, rfl⟩ := nest_form w hw
  exact va_Nw.warmF hW (h.2 _ hw)⟩
theorem KW.calling {G : GG} {U : State} {g : JFrame} {mk : MethodId} {a : Array Value} (h : KW G U) : KW G (U.calling g mk a) := ⟨va_K.moved (u := U) (U := U.calling g mk a) (Vm.Alike.refl U.vm) h.1, fun w hw => by
  obtain ⟨a, i, b, n, d, h9, rfl⟩ := nest_form w hw
  exact va_Nw.same rfl rfl (h.2 _ hw)⟩
theorem Wd.blind {G : GG} {M : MM} {args : List Value} {sz : Nat} : FrameBlind (va_Pc args (fun U => U.heap.size = sz ∧ Wd G M U)) := fun a U g mk q => by
  obtain ⟨q0, q1, qP, qK, qD⟩ := q
  exact ⟨q0, q1, qP, qK.calling, qD⟩
theorem Ct.of {l : Launch} {G : GG} {y : MethodName} {ws ws' : List Cond} {d : Nat} {av : List Value} {M : MM} {Qf : Option Value → MM → Prop} {cc : ByteArray} {maxL : Nat} {ret : Option FieldType} {lv : List (Nat × Value)} (hy : plainName y.cls = true) (hw : ws = Cond.code y cc maxL ret :: ws') (hlv : lv_args 0 av = lv) (hlen : (lg_sl av).length ≤ maxL)
    (body : ∀ (p : Program) (e : Env) (s : State) (m : MethodId) (below : List Frame) (meth : Method) (c : Code) (A : Nat → Prop), Cx G p s m av.toArray meth c A cc maxL y.cls ws → meth.sig.returnType = ret → J G p l e (rmD d) s m av.toArray below meth c A maxL (MQ below (QQ G Qf A) av.toArray s 0 0 A) 0 0 0 lv [] M) : Ct l G y ws d av M Qf := by
  intro sz
  refine Met.ofW (cc := cc) (maxL := maxL) (ret := ret) hy hw ?_
  intro p e s m args below meth c s₁ B hml hv
  obtain ⟨rfl, hsz, hP, hK, hg⟩ := hv
  subst hsz
  have C : Cx G p s m av.toArray meth c (AA G s.heap.size) cc maxL y.cls ws := ⟨B.exec, B.bytes, hml, findClass_of_methodNamed B.named, atoms_spec (ws := ws) B.pre, B.notSynchronized, hK, hg, fun i hi => Or.inl ⟨i, hi, rfl⟩, fun q h => Or.inr h⟩
  have hl := lv_entry av hlen
  rw [hlv] at hl
  rw [lg_entry_eq]
  exact body p e s m below meth c _ C B.returns s.heap [] _ hP va_S.rf hl
section JC
variable {G : GG} {p : Program} {l : Launch} {e : Env} {R : Room} {s : State} {m : MethodId} {args : Array Value} {below : List Frame} {meth : Method} {c : Code} {A : Nat → Prop} {nL : Nat} {Q : State → Prop} {k9 n9 pc : Nat} {lv : List (Nat × Value)} {st : List Value} {M : MM} {cc : ByteArray} {own : String} {Ts : List Cond} {Qf : Option Value → MM → Prop}
theorem j_ireturn (C : Cx G p s m args meth c A cc nL own Ts) {v : Int32} (hr : meth.sig.returnType = some .int) (hd : decode cc pc = .ok (.ireturn, 1)) (hq : Qf (some (.int v)) M) : J G p l e R s m args below meth c A nL (MQ below (QQ G Qf A) args s k9 n9 A) k9 n9 pc lv [.int v] M := by
  intro H locs ls hP hS hv
  exact W.iret C.1 C.2.1 hr (fun t ht hW => ⟨⟨_, M, rfl, hq, by rw [ht]; exact hP⟩, hS.F ht⟩) hS.2.2 hd C.2.2.2.2.2.1
theorem j_zreturn (C : Cx G p s m args meth c A cc nL own Ts) {b : Bool} (hr : meth.sig.returnType = some .boolean) (hd : decode cc pc = .ok (.ireturn, 1)) (hq : Qf (some (.int (bI b))) M) : J G p l e R s m args below meth c A nL (MQ below (QQ G Qf A) args s k9 n9 A) k9 n9 pc lv [.int (bI b)] M := by
  intro H locs ls hP hS hv
  exact W.zret C.1 C.2.1 hr (by cases b <;> rfl) (fun t ht hW => ⟨⟨_, M, rfl, hq, by rw [ht]; exact hP⟩, hS.F ht⟩) hS.2.2 hd C.2.2.2.2.2.1
theorem j_lreturn (C : Cx G p s m args meth c A cc nL own Ts) {v : Int64} (hr : meth.sig.returnType = some .long) (hd : decode cc pc = .ok (.lreturn, 1)) (hq : Qf (some (.long v)) M) : J G p l e R s m args below meth c A nL (MQ below (QQ G Qf A) args s k9 n9 A) k9 n9 pc lv [.long v] M := by
  intro H locs ls hP hS hv
  exact W.lret C.1 C.2.1 hr (fun t ht hW => ⟨⟨_, M, rfl, hq, by rw [ht]; exact hP⟩, hS.F ht⟩) hS.2.2 hd C.2.2.2.2.2.1
theorem j_dreturn (C : Cx G p s m args meth c A cc nL own Ts) {v : UInt64} (hr : meth.sig.returnType = some .double) (hd : decode cc pc = .ok (.dreturn, 1)) (hq : Qf (some (.double v)) M) : J G p l e R s m args below meth c A nL (MQ below (QQ G Qf A) args s k9 n9 A) k9 n9 pc lv [.double v] M := by
  intro H locs ls hP hS hv
  exact W.dret C.1 C.2.1 hr (fun t ht hW => ⟨⟨_, M, rfl, hq, by rw [ht]; exact hP⟩, hS.F ht⟩) hS.2.2 hd C.2.2.2.2.2.1
theorem j_return (C : Cx G p s m args meth c A cc nL own Ts) (hr : meth.sig.returnType = none) (hd : decode cc pc = .ok (.return_, 1)) (hq : Qf none M) : J G p l e R s m args below meth c A nL (MQ below (QQ G Qf A) args s k9 n9 A) k9 n9 pc lv [] M := by
  intro H locs ls hP hS hv
  exact W.vret C.1 C.2.1 hr (fun t ht hW => ⟨⟨_, M, rfl, hq, by rw [ht]; exact hP⟩, hS.F ht⟩) hS.2.2 hd C.2.2.2.2.2.1
/-- behind a run of a callee: the caller goes on -/
theorem j_run (C : Cx G p s m args meth c A cc nL own Ts) {rest st0 : List Value} {a9 : Array Value}
    (hr : ∀ (H : Heap) (locs : List Loc) (ls : Array Slot), va_P G.1 vwCl (WS G M) H → va_S A s.heap H locs → lv_has ls nL lv → va_Run p l e R s m args below meth c H locs k9 n9 0 0 (F0 m pc ls st0) rest (QQ G Qf (AA G H.size) a9) (AA G H.size))
    (k : ∀ (v : Option Value) (M' : MM), Qf v M' → J G p l e R s m args below meth c A nL Q k9 n9 (pc + 3) lv (v.toList ++ rest) M') : J G p l e R s m args below meth c A nL Q k9 n9 pc lv st0 M := by
  intro H locs ls hP hS hv T hT X
  obtain ⟨v, s9, t, T', L, h0, X', hL, e1, e2, ⟨⟨v', M', hv', hq, hP1⟩, hz, hk⟩, st9⟩ := hr H locs ls hP hS hv T hT X
  cases hv'
  rw [h0] at hz hk
  have hA : ∀ q, AA G H.size q → A q := by
    intro q hq
    rcases hq with ⟨i, hi, rfl⟩ | h
    · exact C.2.2.2.2.2.2.2.2.1 i hi
    · exact C.2.2.2.2.2.2.2.2.2 q (Nat.le_trans hS.1 h)
  obtain ⟨t2, a1, b1⟩ := k v M' hq T'.heap (locs ++ L) ls (by rw [e1]; exact hP1)
    ⟨Nat.le_trans hS.1 (by rw [e1]; exact hz), fun q h1 h2 => by rw [e1, hk q (Nat.lt_of_lt_of_le h1 hS.1) (fun z => h2 (hA q z))]; exact hS.2.1 q h1 h2, fun q hq => by
      rcases List.mem_append.mp hq with h | h
      · exact hS.2.2 q h
      · exact hA _ (hL q h)⟩ hv T' rfl X'
  exact ⟨t2, st9 t2 a1, b1⟩
theorem j_callV (C : Cx G p s m args meth c A cc nL own Ts) {i ci index d maxL n : Nat} {As rest st0 fs : List Value} {y : MethodName} {ws' ws2 : List Cond} {bytes : ByteArray} {ret : Option FieldType} {D9 : String} {T : u_T} {N : Nat}
    (hC : Ct l G y ws' d (.ref (G.2.2 i) :: As) M Qf) (hd : decode cc pc = .ok (.invokevirtual index, 3)) (hc : cellOf G M i = .inr (ci, fs)) (hi : i < NN) (hcl : vwCl[ci]? = some (D9, T, N)) (hG : GoodIn Ts (wsV own index D9 y ws')) (hw : ws' = Cond.code y bytes maxL ret :: ws2)
    (hy : y.cls = D9 ∧ y.cls ≠ "java/lang/invoke/MethodHandle" ∧ y.cls ≠ "java/lang/invoke/VarHandle" ∧ (parseMethodDescriptor y.desc).map (fun d => d.parameters.length) = some n) (hn : As.length = n) (hst : st0 = As.reverse ++ .ref (G.2.2 i) :: rest) (hcat : (rest.map fun v => v.category).sum ≤ 8) (hR : (rmD d).frames + 1 ≤ R.frames ∧ 8 + (maxL + 11) + (rmD d).locals ≤ R.locals) (hkn : k9 ≤ R.cells ∧ n9 ≤ R.slots)
    (k : ∀ (v : Option Value) (M' : MM), Qf v M' → J G p l e R s m args below meth c A nL Q k9 n9 (pc + 3) lv (v.toList ++ rest) M') : J G p l e R s m args below meth c A nL Q k9 n9 pc lv st0 M := by
  refine j_run C (rest := rest) (a9 := (Value.ref (G.2.2 i) :: As).toArray) (fun H locs ls hP hS hv => ?_) k
  exact va_runV (As := As) (rest := rest) ⟨C.1, C.2.1, C.2.2.1, C.2.2.2.1, C.2.2.2.2.1⟩ (hC H.size) (cwV n C.2.2.2.2.1 hG hw rfl rfl hy hR) ⟨Wd.blind, va_recv C.K hP hcl (WS_get hi hc), fun U hU hW => ⟨rfl, by rw [hU], by rw [hU]; exact hP, C.2.2.2.2.2.2.1.warm hW, C.2.2.2.2.2.2.2.1⟩⟩ rfl hn hv.1 hst (lv_room hcat) hd hkn
theorem j_callS (C : Cx G p s m args meth c A cc nL own Ts) {index d maxL n : Nat} {As rest st0 : List Value} {y : MethodName} {ws' ws2 : List Cond} {bytes : ByteArray} {ret : Option FieldType}
    (hC : Ct l G y ws' d As M Qf) (hd : decode cc pc = .ok (.invokestatic index, 3)) (hG : GoodIn Ts (va_wsS own index y ws')) (hw : ws' = Cond.code y bytes maxL ret :: ws2)
    (hy : y.cls ≠ "java/lang/invoke/MethodHandle" ∧ y.cls ≠ "java/lang/invoke/VarHandle" ∧ (parseMethodDescriptor y.desc).map (fun d => d.parameters.length) = some n) (hn : As.length = n) (hst : st0 = As.reverse ++ rest) (hcat : (rest.map fun v => v.category).sum ≤ 8) (hR : (rmD d).frames + 1 ≤ R.frames ∧ 8 + (maxL + 11) + (rmD d).locals ≤ R.locals) (hkn : k9 ≤ R.cells ∧ n9 ≤ R.slots)
    (k : ∀ (v : Option Value) (M' : MM), Qf v M' → J G p l e R s m args below meth c A nL Q k9 n9 (pc + 3) lv (v.toList ++ rest) M') : J G p l e R s m args below meth c A nL Q k9 n9 pc lv st0 M := by
  refine j_run C (rest := rest) (a9 := As.toArray) (fun H locs ls hP hS hv => ?_) k
  exact va_runS (As := As) (rest := rest) ⟨C.1, C.2.1, C.2.2.1, C.2.2.2.1, C.2.2.2.2.1⟩ (hC H.size) (va_cwS n C.2.2.2.2.1 hG hw rfl rfl hy hR) ⟨Wd.blind, fun U hU hW => ⟨rfl, by rw [hU], by rw [hU]; exact hP, C.2.2.2.2.2.2.1.warm hW, C.2.2.2.2.2.2.2.1⟩⟩ rfl hn hv.1 hst (lv_room hcat) hd hkn
/-! the usual answers -/
def rI (r : Int32) (M1 : MM) : Option Value → MM → Prop := fun v M' => v = some (.int r) ∧ M' = M1
def rL (r : Int64) (M1 : MM) : Option Value → MM → Prop := fun v M' => v = some (.long r) ∧ M' = M1
def rD (r : UInt64) (M1 : MM) : Option Value → MM → Prop := fun v M' => v = some (.double r) ∧ M' = M1
def rV (M1 : MM) : Option Value → MM → Prop := fun v M' => v = none ∧ M' = M1
theorem k_I {r : Int32} {M1 : MM} {rest : List Value} {pc1 : Nat} (k : J G p l e R s m args below meth c A nL Q k9 n9 pc1 lv (.int r :: rest) M1) : ∀ (v : Option Value) (M' : MM), rI r M1 v M' → J G p l e R s m args below meth c A nL Q k9 n9 pc1 lv (v.toList ++ rest) M' := by
  rintro v M' ⟨rfl, rfl⟩; exact k
theorem k_L {r : Int64} {M1 : MM} {rest : List Value} {pc1 : Nat} (k : J G p l e R s m args below meth c A nL Q k9 n9 pc1 lv (.long r :: rest) M1) : ∀ (v : Option Value) (M' : MM), rL r M1 v M' → J G p l e R s m args below meth c A nL Q k9 n9 pc1 lv (v.toList ++ rest) M' := by
  rintro v M' ⟨rfl, rfl⟩; exact k
theorem k_D {r : UInt64} {M1 : MM} {rest : List Value} {pc1 : Nat} (k : J G p l e R s m args below meth c A nL Q k9 n9 pc1 lv (.double r :: rest) M1) : ∀ (v : Option Value) (M' : MM), rD r M1 v M' → J G p l e R s m args below meth c A nL Q k9 n9 pc1 lv (v.toList ++ rest) M' := by
  rintro v M' ⟨rfl, rfl⟩; exact k
theorem k_V {M1 : MM} {rest : List Value} {pc1 : Nat} (k : J G p l e R s m args below meth c A nL Q k9 n9 pc1 lv rest M1) : ∀ (v : Option Value) (M' : MM), rV M1 v M' → J G p l e R s m args below meth c A nL Q k9 n9 pc1 lv (v.toList ++ rest) M' := by
  rintro v M' ⟨rfl, rfl⟩; exact k

theorem j_mabs (C : Cx G p s m args meth c A cc nL own Ts) {index : Nat} {x : Int32} (hd : decode cc pc = .ok (.invokestatic index, 3)) (h1 : Cond.methodLink own index Lib.Math.abs.name ∈ Ts) (h2 : Cond.static Lib.Math.abs.name ∈ Ts) (h3 : Cond.initialized "java/lang/Math" ∈ Ts) (h4 : Cond.code Lib.Math.abs.name Lib.Math.abs.code 1 (some .int) ∈ Ts) (hf : 1 ≤ R.frames) (hl : (st.map fun v => v.category).sum + 13 ≤ R.locals) (hkn : k9 ≤ R.cells ∧ n9 ≤ R.slots)
    (k : J G p l e R s m args below meth c A nL Q k9 n9 (pc + 3) lv (.int (if 0 ≤ x then x else 0 - x) :: st) M)
    : J G p l e R s m args below meth c A nL Q k9 n9 pc lv (.int x :: st) M := by
  intro H locs ls hP hS hv
  exact va_mabs C.1 C.2.1 (C.2.2.1.trans hv.1.symm) C.2.2.2.1 (C.w h1) (C.w h2) (C.w h3) (C.w h4) hf hl hkn.1 hkn.2 hd (k H locs ls hP hS hv)
theorem j_mmin (C : Cx G p s m args meth c A cc nL own Ts) {index : Nat} {x y : Int32} (hd : decode cc pc = .ok (.invokestatic index, 3)) (h1 : Cond.methodLink own index Lib.Math.min.name ∈ Ts) (h2 : Cond.static Lib.Math.min.name ∈ Ts) (h3 : Cond.initialized "java/lang/Math" ∈ Ts) (h4 : Cond.code Lib.Math.min.name Lib.Math.min.code 2 (some .int) ∈ Ts) (hf : 1 ≤ R.frames) (hl : (st.map fun v => v.category).sum + 13 ≤ R.locals) (hkn : k9 ≤ R.cells ∧ n9 ≤ R.slots)
    (k : J G p l e R s m args below meth c A nL Q k9 n9 (pc + 3) lv (.int (if y < x then y else x) :: st) M)
    : J G p l e R s m args below meth c A nL Q k9 n9 pc lv (.int y :: .int x :: st) M := by
  intro H locs ls hP hS hv
  exact va_mmin C.1 C.2.1 (C.2.2.1.trans hv.1.symm) C.2.2.2.1 (C.w h1) (C.w h2) (C.w h3) (C.w h4) hf hl hkn.1 hkn.2 hd (k H locs ls hP hS hv)
theorem j_putf (C : Cx G p s m args meth c A cc nL own Ts) {i ci index k : Nat} {ref D9 : String} {T : u_T} {N : Nat} {fs : List Value} {v : Int32} (hd : decode cc pc = .ok (.putfield index, 3)) (hc : cellOf G M i = .inr (ci, fs)) (hi : i < NN) (hcl : vwCl[ci]? = some (D9, T, N)) (hin : ∀ w ∈ u_ws D9 T N, w ∈ Ts) (ty0 : Nat → FieldType) (hty : ∀ k, k < N → parseFieldDescriptor (T k).2.2.1 = some (ty0 k)) (hnm : ∀ a, a < N → ∀ b, b < N → a ≠ b → (T a).2.1 ≠ (T b).2.1) (hk : k < N) (hlink : Cond.fieldLink own index ref (T k).2.1 (T k).2.2.1 ∈ Ts) (href : (T k).1 = ref) (hfin : (T k).2.2.2 = false) (hint : parseFieldDescriptor (T k).2.2.1 = some .int) (hl : k < fs.length) (hc2 : cellOf G (setV M i k v) i = .inr (ci, fs.set k (.int v)))
    (k9k : J G p l e R s m args below meth c A nL Q k9 n9 (pc + 3) lv st (setV M i k v))
    : J G p l e R s m args below meth c A nL Q k9 n9 pc lv (.int v :: .ref (G.2.2 i) :: st) M := by
  intro H locs ls hP hS hv
  refine va_put C.1 C.2.1 C.2.2.2.2.1 hin ty0 hty hnm C.2.2.2.1 C.K hP C.D hS i (WS_get hi hc) hcl k hk (C.w hlink) (fun x9 h9 => by rw [← href]; exact h9) hfin hint rfl rfl hl hd (fun H1 locs1 hP1 _ hS1 => ?_)
  rw [WS_setV hi hc2] at hP1
  exact k9k H1 locs1 ls hP1 hS1 hv
theorem j_tableIn (C : Cx G p s m args meth c A cc nL own Ts) {dflt lo hi : Int} {offs : Array Int} {len : Nat} {x : Int32} {off : Int} {tgt : Nat} (hd : decode cc pc = .ok (.tableswitch dflt lo hi offs, len)) (h1 : ¬ x.toInt < lo) (h2 : ¬ hi < x.toInt) (ho : offs[(x.toInt - lo).toNat]? = some off) (ht : (pc : Int) + off = (tgt : Int))
    (k : J G p l e R s m args below meth c A nL Q k9 n9 tgt lv st M)
    : J G p l e R s m args below meth c A nL Q k9 n9 pc lv (.int x :: st) M := by
  intro H locs ls hP hS hv
  exact lv_tableIn C.1 C.2.1 hd h1 h2 ho ht (k H locs ls hP hS hv)
theorem j_tableOut (C : Cx G p s m args meth c A cc nL own Ts) {dflt lo hi : Int} {offs : Array Int} {len : Nat} {x : Int32} {tgt : Nat} (hd : decode cc pc = .ok (.tableswitch dflt lo hi offs, len)) (h : x.toInt < lo ∨ hi < x.toInt) (ht : (pc : Int) + dflt = (tgt : Int))
    (k : J G p l e R s m args below meth c A nL Q k9 n9 tgt lv st M)
    : J G p l e R s m args below meth c A nL Q k9 n9 pc lv (.int x :: st) M := by
  intro H locs ls hP hS hv
  exact lv_tableOut C.1 C.2.1 hd h ht (k H locs ls hP hS hv)
theorem j_lookup (C : Cx G p s m args meth c A cc nL own Ts) {dflt : Int} {ps : Array (Int × Int)} {len : Nat} {x : Int32} {off : Int} {tgt : Nat} (hd : decode cc pc = .ok (.lookupswitch dflt ps, len)) (hp : (ps.toList.zip (ps.toList.drop 1)).all (fun (a, next) => a.1 < next.1) = true) (ho : Op.lookupswitch.offset ps.toList dflt x.toInt = off) (ht : (pc : Int) + off = (tgt : Int))
    (k : J G p l e R s m args below meth c A nL Q k9 n9 tgt lv st M)
    : J G p l e R s m args below meth c A nL Q k9 n9 pc lv (.int x :: st) M := by
  intro H locs ls hP hS hv
  exact lv_lookup C.1 C.2.1 hd hp ho ht (k H locs ls hP hS hv)
end JC
