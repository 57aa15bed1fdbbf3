section JQ
variable {G : GG} {p : Program} {l : Launch} {e : Env} {R : Room} {s : State} {m : MethodId} {args : Array Value} {below : List Frame} {meth : Method} {c : Code} {A : Nat → Prop} {nL : Nat} {Q : State → Prop} {k9 n9 pc : Nat} {lv : List (Nat × Value)} {st : List Value} {M : MM} {cc : ByteArray} {own : String} {Ts : List Cond}
theorem k_VQ {P : MM → Prop} {rest : List Value} {pc1 : Nat} (k : ∀ M' : MM, P M' → J G p l e R s m args below meth c A nL Q k9 n9 pc1 lv rest M') : ∀ (v : Option Value) (M' : MM), (v = none ∧ P M') → J G p l e R s m args below meth c A nL Q k9 n9 pc1 lv (v.toList ++ rest) M' := by
  rintro v M' ⟨rfl, h⟩; exact k M' h
theorem k_IQ {r : Int32} {P : MM → Prop} {rest : List Value} {pc1 : Nat} (k : ∀ M' : MM, P M' → J G p l e R s m args below meth c A nL Q k9 n9 pc1 lv (.int r :: rest) M') : ∀ (v : Option Value) (M' : MM), (v = some (.int r) ∧ P M') → J G p l e R s m args below meth c A nL Q k9 n9 pc1 lv (v.toList ++ rest) M' := by
  rintro v M' ⟨rfl, h⟩; exact k M' h
theorem k_LQ {r : Int64} {P : MM → Prop} {rest : List Value} {pc1 : Nat} (k : ∀ M' : MM, P M' → J G p l e R s m args below meth c A nL Q k9 n9 pc1 lv (.long r :: rest) M') : ∀ (v : Option Value) (M' : MM), (v = some (.long r) ∧ P M') → J G p l e R s m args below meth c A nL Q k9 n9 pc1 lv (v.toList ++ rest) M' := by
  rintro v M' ⟨rfl, h⟩; exact k M' h
end JQ
/-- the same, but which kept bureau lies where may have changed -/
def Of (M M' : MM) (P : Nat → Prop) : Prop := (∀ a, ¬ P a → M'.1 a = M.1 a ∧ M'.2.1 a = M.2.1 a) ∧ M'.2.2.2 = M.2.2.2
theorem Of.rf {M : MM} {P : Nat → Prop} : Of M M P := ⟨fun _ _ => ⟨rfl, rfl⟩, rfl⟩
theorem Off.of {M M1 : MM} {P : Nat → Prop} (h : Off M M1 P) : Of M M1 P := ⟨h.1, by rw [h.2]⟩
theorem Of.tr {M M1 M2 : MM} {P : Nat → Prop} (h : Of M M1 P) (h2 : Of M1 M2 P) : Of M M2 P := ⟨fun a ha => ⟨((h2.1 a ha).1).trans (h.1 a ha).1, ((h2.1 a ha).2).trans (h.1 a ha).2⟩, h2.2.trans h.2⟩
theorem Of.mono {M M1 : MM} {P P2 : Nat → Prop} (h : Of M M1 P) (hp : ∀ a, P a → P2 a) : Of M M1 P2 := ⟨fun a ha => h.1 a (fun q => ha (hp a q)), h.2⟩
theorem Of.P {M : MM} {P : Nat → Prop} {q : Nat → Nat} : Of M (setP M q) P := ⟨fun _ _ => ⟨rfl, rfl⟩, rfl⟩
theorem Bu.of {M M' : MM} {b : Nat} {σ : Sg} {P : Nat → Prop} (h : Bu M b σ) (ho : Of M M' P) (hp : ∀ k, k < 8 → ¬ P (8 * b + k)) : Bu M' b σ := by
  obtain ⟨h1, h2, h3, h4, h5, h6, h7, h8, h9, h10⟩ := h
  have e := fun k hk => (ho.1 (8 * b + k) (hp k hk)).1
  have e0 := (ho.1 (8 * b) (hp 0 (by decide))).2
  exact ⟨fun p hp => by rw [e 1 (by decide)]; exact h1 p hp, fun p hp => by rw [e 2 (by decide)]; exact h2 p hp, fun p hp => by rw [e 3 (by decide)]; exact h3 p hp, fun p hp => by rw [e 4 (by decide)]; exact h4 p hp, fun p hp => by rw [e 5 (by decide)]; exact h5 p hp, fun p hp => by rw [e 6 (by decide)]; exact h6 p hp, fun p hp => by rw [e 7 (by decide)]; exact h7 p hp, by rw [e0]; exact h8, by rw [e0]; exact h9, by rw [e0]; exact h10⟩
theorem Bu.P {M : MM} {b : Nat} {σ : Sg} {q : Nat → Nat} (h : Bu M b σ) : Bu (setP M q) b σ := h
def cp1 (M : MM) (b b2 k n : Nat) : MM := setRow M (8 * b + k) (va_cpy (M.1 (8 * b2 + k)) (M.1 (8 * b + k)) 0 0 n)
theorem cp1_ne {M : MM} {b b2 k n a : Nat} (h : a ≠ 8 * b + k) : (cp1 M b b2 k n).1 a = M.1 a := setRow_ne h
theorem cp1_eq {M : MM} {b b2 k n p : Nat} (h : p < n) : (cp1 M b b2 k n).1 (8 * b + k) p = M.1 (8 * b2 + k) p := by
  unfold cp1
  rw [setRow_eq, pk_cpy_in (Nat.zero_le p) (by omega), Nat.sub_zero, Nat.zero_add]
def cp7 (M : MM) (b b2 : Nat) : MM := cp1 (cp1 (cp1 (cp1 (cp1 (cp1 (cp1 M b b2 1 8) b b2 2 8) b b2 3 4) b b2 4 4) b b2 5 4) b b2 6 6) b b2 7 6
def cpM (M : MM) (b b2 : Nat) : MM := setV (setV (setV (cp7 M b b2) (8 * b) 7 (M.2.1 (8 * b2) 7)) (8 * b) 8 (M.2.1 (8 * b2) 8)) (8 * b) 9 (M.2.1 (8 * b2) 9)
theorem Bu_copy {M : MM} {b b2 : Nat} {σ : Sg} (hne : b ≠ b2) (h : Bu M b2 σ) : Bu (cpM M b b2) b σ := by
  obtain ⟨h1, h2, h3, h4, h5, h6, h7, h8, h9, h10⟩ := h
  exact ⟨fun p hp => by show (cp7 M b b2).1 (8 * b + 1) p = _; unfold cp7; rw [cp1_ne (show 8 * b + 1 ≠ 8 * b + 7 by omega), cp1_ne (show 8 * b + 1 ≠ 8 * b + 6 by omega), cp1_ne (show 8 * b + 1 ≠ 8 * b + 5 by omega), cp1_ne (show 8 * b + 1 ≠ 8 * b + 4 by omega), cp1_ne (show 8 * b + 1 ≠ 8 * b + 3 by omega), cp1_ne (show 8 * b + 1 ≠ 8 * b + 2 by omega), cp1_eq hp]; exact h1 p hp,
    fun p hp => by show (cp7 M b b2).1 (8 * b + 2) p = _; unfold cp7; rw [cp1_ne (show 8 * b + 2 ≠ 8 * b + 7 by omega), cp1_ne (show 8 * b + 2 ≠ 8 * b + 6 by omega), cp1_ne (show 8 * b + 2 ≠ 8 * b + 5 by omega), cp1_ne (show 8 * b + 2 ≠ 8 * b + 4 by omega), cp1_ne (show 8 * b + 2 ≠ 8 * b + 3 by omega), cp1_eq hp, cp1_ne (show 8 * b2 + 2 ≠ 8 * b + 1 by omega)]; exact h2 p hp,
    fun p hp => by show (cp7 M b b2).1 (8 * b + 3) p = _; unfold cp7; rw [cp1_ne (show 8 * b + 3 ≠ 8 * b + 7 by omega), cp1_ne (show 8 * b + 3 ≠ 8 * b + 6 by omega), cp1_ne (show 8 * b + 3 ≠ 8 * b + 5 by omega), cp1_ne (show 8 * b + 3 ≠ 8 * b + 4 by omega), cp1_eq hp, cp1_ne (show 8 * b2 + 3 ≠ 8 * b + 2 by omega), cp1_ne (show 8 * b2 + 3 ≠ 8 * b + 1 by omega)]; exact h3 p hp,
    fun p hp => by show (cp7 M b b2).1 (8 * b + 4) p = _; unfold cp7; rw [cp1_ne (show 8 * b + 4 ≠ 8 * b + 7 by omega), cp1_ne (show 8 * b + 4 ≠ 8 * b + 6 by omega), cp1_ne (show 8 * b + 4 ≠ 8 * b + 5 by omega), cp1_eq hp, cp1_ne (show 8 * b2 + 4 ≠ 8 * b + 3 by omega), cp1_ne (show 8 * b2 + 4 ≠ 8 * b + 2 by omega), cp1_ne (show 8 * b2 + 4 ≠ 8 * b + 1 by omega)]; exact h4 p hp,
    fun p hp => by show (cp7 M b b2).1 (8 * b + 5) p = _; unfold cp7; rw [cp1_ne (show 8 * b + 5 ≠ 8 * b + 7 by omega), cp1_ne (show 8 * b + 5 ≠ 8 * b + 6 by omega), cp1_eq hp, cp1_ne (show 8 * b2 + 5 ≠ 8 * b + 4 by omega), cp1_ne (show 8 * b2 + 5 ≠ 8 * b + 3 by omega), cp1_ne (show 8 * b2 + 5 ≠ 8 * b + 2 by omega), cp1_ne (show 8 * b2 + 5 ≠ 8 * b + 1 by omega)]; exact h5 p hp,
    fun p hp => by show (cp7 M b b2).1 (8 * b + 6) p = _; unfold cp7; rw [cp1_ne (show 8 * b + 6 ≠ 8 * b + 7 by omega), cp1_eq hp, cp1_ne (show 8 * b2 + 6 ≠ 8 * b + 5 by omega), cp1_ne (show 8 * b2 + 6 ≠ 8 * b + 4 by omega), cp1_ne (show 8 * b2 + 6 ≠ 8 * b + 3 by omega), cp1_ne (show 8 * b2 + 6 ≠ 8 * b + 2 by omega), cp1_ne (show 8 * b2 + 6 ≠ 8 * b + 1 by omega)]; exact h6 p hp,
    fun p hp => by show (cp7 M b b2).1 (8 * b + 7) p = _; unfold cp7; rw [cp1_eq hp, cp1_ne (show 8 * b2 + 7 ≠ 8 * b + 6 by omega), cp1_ne (show 8 * b2 + 7 ≠ 8 * b + 5 by omega), cp1_ne (show 8 * b2 + 7 ≠ 8 * b + 4 by omega), cp1_ne (show 8 * b2 + 7 ≠ 8 * b + 3 by omega), cp1_ne (show 8 * b2 + 7 ≠ 8 * b + 2 by omega), cp1_ne (show 8 * b2 + 7 ≠ 8 * b + 1 by omega)]; exact h7 p hp,
    by show (setV (setV (setV (cp7 M b b2) (8 * b) 7 (M.2.1 (8 * b2) 7)) (8 * b) 8 (M.2.1 (8 * b2) 8)) (8 * b) 9 (M.2.1 (8 * b2) 9)).2.1 (8 * b) 7 = _; rw [setV_nk (by decide), setV_nk (by decide), setV_eq]; exact h8,
    by show (setV (setV (setV (cp7 M b b2) (8 * b) 7 (M.2.1 (8 * b2) 7)) (8 * b) 8 (M.2.1 (8 * b2) 8)) (8 * b) 9 (M.2.1 (8 * b2) 9)).2.1 (8 * b) 8 = _; rw [setV_nk (by decide), setV_eq]; exact h9,
    by show (setV (setV (setV (cp7 M b b2) (8 * b) 7 (M.2.1 (8 * b2) 7)) (8 * b) 8 (M.2.1 (8 * b2) 8)) (8 * b) 9 (M.2.1 (8 * b2) 9)).2.1 (8 * b) 9 = _; rw [setV_eq]; exact h10⟩
theorem Off_cp1 {M : MM} {b b2 k n : Nat} (hk : k < 8) : Off M (cp1 M b b2 k n) (inB b) := Off.row (by unfold inB; omega)
theorem Off_cpM {M : MM} {b b2 : Nat} : Off M (cpM M b b2) (inB b) := by
  have h : Off M (cp7 M b b2) (inB b) := ((((((Off_cp1 (by decide)).tr (Off_cp1 (by decide))).tr (Off_cp1 (by decide))).tr (Off_cp1 (by decide))).tr (Off_cp1 (by decide))).tr (Off_cp1 (by decide))).tr (Off_cp1 (by decide))
  exact ((h.tr (Off.V (by unfold inB; omega))).tr (Off.V (by unfold inB; omega))).tr (Off.V (by unfold inB; omega))
/-- the memory keeps n states, those of sv -/
def Mem (M : MM) (n : Nat) (sv : Nat → Sg) : Prop := n ≤ 6 ∧ M.2.1 73 3 = nI n ∧ (∀ k, k < 6 → M.2.2.1 k < 6) ∧ (∀ i j, i < 6 → j < 6 → M.2.2.1 i = M.2.2.1 j → i = j) ∧ ∀ k, k < n → Bu M (3 + M.2.2.1 k) (sv k)
/-- the cells of the kept bureaus, and the number of them -/
def inK : Nat → Prop := fun a => (24 ≤ a ∧ a < 72) ∨ a = 73
def svN (n : Nat) : Nat := if n = 6 then 6 else n + 1
def svS (n : Nat) (sv : Nat → Sg) (σ : Sg) : Nat → Sg := if n = 6 then (fun k => if k = 5 then σ else sv (k + 1)) else (fun k => if k = n then σ else sv k)
def rot (p : Nat → Nat) (n : Nat) : Nat → Nat := fun k => if k + 1 < n then p (k + 1) else p k
theorem rot_1 (p : Nat → Nat) : rot p 1 = p := by funext k; unfold rot; rw [if_neg (by omega)]
theorem rot_at (p : Nat → Nat) (n : Nat) : rot p n n = p n := by unfold rot; rw [if_neg (by omega)]
theorem rot_s {p : Nat → Nat} {n : Nat} (h : 0 < n) : va_up (rot p n) (n - 1) (rot p n n) = rot p (n + 1) := by
  funext k
  unfold va_up
  by_cases e : k = n - 1
  · rw [if_pos e, rot_at, e]; unfold rot; rw [if_pos (by omega), show n - 1 + 1 = n by omega]
  · rw [if_neg e]; unfold rot
    by_cases e2 : k + 1 < n
    · rw [if_pos e2, if_pos (by omega)]
    · rw [if_neg e2, if_neg (by omega)]
def rotd (p : Nat → Nat) : Nat → Nat := va_up (rot p 6) 5 (p 0)
theorem rotd_5 {p : Nat → Nat} : rotd p 5 = p 0 := by unfold rotd va_up; rw [if_pos rfl]
theorem rotd_lo {p : Nat → Nat} {k : Nat} (h : k < 5) : rotd p k = p (k + 1) := by unfold rotd va_up rot; rw [if_neg (by omega), if_pos (by omega)]
theorem rot_lt {p : Nat → Nat} (h : ∀ k, k < 6 → p k < 6) {n k : Nat} (hn : n ≤ 6) (hk : k < 6) : rot p n k < 6 := by
  unfold rot
  by_cases e : k + 1 < n
  · rw [if_pos e]; exact h _ (by omega)
  · rw [if_neg e]; exact h _ hk
theorem rotd_lt {p : Nat → Nat} (h : ∀ k, k < 6 → p k < 6) : ∀ k, k < 6 → rotd p k < 6 := by
  intro k hk
  rcases Nat.lt_or_ge k 5 with e | e
  · rw [rotd_lo e]; exact h _ (by omega)
  · rw [show k = 5 by omega, rotd_5]; exact h _ (by decide)
theorem rotd_inj {p : Nat → Nat} (h : ∀ i j, i < 6 → j < 6 → p i = p j → i = j) : ∀ i j, i < 6 → j < 6 → rotd p i = rotd p j → i = j := by
  intro i j hi hj e
  rcases Nat.lt_or_ge i 5 with a | a
  · rw [rotd_lo a] at e
    rcases Nat.lt_or_ge j 5 with b | b
    · rw [rotd_lo b] at e
      have := h _ _ (by omega) (by omega) e; omega
    · rw [show j = 5 by omega, rotd_5] at e
      have := h _ _ (by omega) (by decide) e; omega
  · rw [show i = 5 by omega, rotd_5] at e
    rcases Nat.lt_or_ge j 5 with b | b
    · rw [rotd_lo b] at e
      have := h _ _ (by decide) (by omega) e; omega
    · omega
theorem Mem_drop {M : MM} {sv : Nat → Sg} (h : Mem M 6 sv) : Mem (setV (setP M (rotd M.2.2.1)) 73 3 (nI 5)) 5 (fun k => sv (k + 1)) := by
  obtain ⟨h1, h2, h3, h4, h5⟩ := h
  refine ⟨by decide, setV_eq, rotd_lt h3, rotd_inj h4, fun k hk => ?_⟩
  show Bu _ (3 + rotd M.2.2.1 k) (sv (k + 1))
  rw [rotd_lo hk]
  exact (h5 (k + 1) (by omega)).of (Of.P.tr (Off.of (Off.V (P := fun a => a = 73) rfl))) (fun j hj => by have := h3 (k + 1) (by omega); omega)
/-- a state is put behind the n that are kept -/
theorem Mem_put {M M' : MM} {n : Nat} {sv : Nat → Sg} {σ : Sg} (h : Mem M n sv) (hn : n < 6) (hB : Bu M' (3 + M.2.2.1 n) σ) (ho : Off M M' (inB (3 + M.2.2.1 n))) : Mem (setV M' 73 3 (nI (n + 1))) (n + 1) (fun k => if k = n then σ else sv k) := by
  obtain ⟨h1, h2, h3, h4, h5⟩ := h
  have ep : (setV M' 73 3 (nI (n + 1))).2.2.1 = M.2.2.1 := by show M'.2.2.1 = _; rw [ho.2]
  have ho2 : Of M' (setV M' 73 3 (nI (n + 1))) (fun a => a = 73) := Off.of (Off.V rfl)
  refine ⟨hn, setV_eq, by rw [ep]; exact h3, by rw [ep]; exact h4, fun k hk => ?_⟩
  rw [ep]
  have hk3 := h3 k (by omega)
  refine Bu.of ?_ ho2 (fun j hj => by omega)
  show Bu M' (3 + M.2.2.1 k) (if k = n then σ else sv k)
  by_cases e : k = n
  · subst e; rw [if_pos rfl]; exact hB
  · rw [if_neg e]
    refine (h5 k (by omega)).off ho (fun j hj => ?_)
    have := h4 k n (by omega) hn
    unfold inB; omega
