/-! the whole state: the bureau; how many states are saved; these; the slots; which are filled; how many characters; these -/
abbrev SS : Type := Sg × Nat × (Nat → Sg) × (Nat → Sg) × (Nat → Bool) × Nat × (Nat → Nat)
def Xc (M : MM) (S : SS) : Prop := Bu M 0 S.1 ∧ Mem M S.2.1 S.2.2.1 ∧ (∀ t, t < 2 → M.1 75 t = bI (S.2.2.2.2.1 t)) ∧ (∀ t, t < 2 → S.2.2.2.2.1 t = true → Bu M (1 + t) (S.2.2.2.1 t)) ∧ Tx M S.2.2.2.2.2.1 S.2.2.2.2.2.2 ∧ ∀ j, j < 8 → M.1 83 j = nI 0
def OkS (S : SS) : Prop := Wf S.1 ∧ (∀ k, k < S.2.1 → Wf (S.2.2.1 k)) ∧ ∀ t, t < 2 → S.2.2.2.2.1 t = true → Wf (S.2.2.2.1 t)
def savS (S : SS) : SS := (S.1, svN S.2.1, svS S.2.1 S.2.2.1 S.1, S.2.2.2)
def setC (S : SS) (σ : Sg) : SS := (σ, S.2)
def setT (S : SS) (n : Nat) (f : Nat → Nat) : SS := (S.1, S.2.1, S.2.2.1, S.2.2.2.1, S.2.2.2.2.1, n, f)
def setSl (S : SS) (t : Nat) (σ : Sg) : SS := (S.1, S.2.1, S.2.2.1, (fun k => if k = t then σ else S.2.2.2.1 k), (fun k => if k = t then true else S.2.2.2.2.1 k), S.2.2.2.2.2)
def popS (S : SS) : SS := (S.2.2.1 (S.2.1 - 1), S.2.1 - 1, S.2.2)
/-- the cells of the class -/
def inX : Nat → Prop := fun a => a < 84
theorem Xc.save {M M' : MM} {S : SS} (h : Xc M S) (hM : Mem M' (svN S.2.1) (svS S.2.1 S.2.2.1 S.1)) (ho : Of M M' inK) : Xc M' (savS S) := by
  obtain ⟨h1, h2, h3, h4, h5, h6⟩ := h
  exact ⟨h1.of ho (fun k hk => by unfold inK; omega), hM, fun t ht => by rw [(ho.1 75 (by unfold inK; omega)).1]; exact h3 t ht, fun t ht hf => (h4 t ht hf).of ho (fun k hk => by unfold inK; omega), h5.of ho (by unfold inK; omega) (by unfold inK; omega), fun j hj => by rw [(ho.1 83 (by unfold inK; omega)).1]; exact h6 j hj⟩
theorem Mem.off {M M' : MM} {n : Nat} {sv : Nat → Sg} {P : Nat → Prop} (h : Mem M n sv) (ho : Off M M' P) (hp : ∀ a, inK a → ¬ P a) : Mem M' n sv := by
  obtain ⟨h1, h2, h3, h4, h5⟩ := h
  have ep : M'.2.2.1 = M.2.2.1 := by rw [ho.2]
  refine ⟨h1, by rw [(ho.1 73 (hp 73 (Or.inr rfl))).2]; exact h2, by rw [ep]; exact h3, by rw [ep]; exact h4, fun k hk => ?_⟩
  rw [ep]
  have := h3 k (by omega)
  exact (h5 k hk).off ho (fun j hj => hp _ (Or.inl (by omega)))
theorem Xc.cur {M M' : MM} {S : SS} {σ : Sg} (h : Xc M S) (hB : Bu M' 0 σ) (ho : Off M M' (inB 0)) : Xc M' (setC S σ) := by
  obtain ⟨h1, h2, h3, h4, h5, h6⟩ := h
  exact ⟨hB, h2.off ho (fun a ha => by unfold inK at ha; unfold inB; omega), fun t ht => by rw [(ho.1 75 (by unfold inB; omega)).1]; exact h3 t ht, fun t ht hf => (h4 t ht hf).off ho (fun k hk => by unfold inB; omega), h5.of ho.of (by unfold inB; omega) (by unfold inB; omega), fun j hj => by rw [(ho.1 83 (by unfold inB; omega)).1]; exact h6 j hj⟩
theorem Xc.text {M M' : MM} {S : SS} {n : Nat} {f : Nat → Nat} (h : Xc M S) (hT : Tx M' n f) (ho : Off M M' (fun a => a = 77 ∨ a = 78)) : Xc M' (setT S n f) := by
  obtain ⟨h1, h2, h3, h4, h5, h6⟩ := h
  exact ⟨h1.off ho (fun k hk => by omega), h2.off ho (fun a ha => by unfold inK at ha; omega), fun t ht => by rw [(ho.1 75 (by omega)).1]; exact h3 t ht, fun t ht hf => (h4 t ht hf).off ho (fun k hk => by omega), hT, fun j hj => by rw [(ho.1 83 (by omega)).1]; exact h6 j hj⟩
theorem Xc.off {M M' : MM} {S : SS} {P : Nat → Prop} (h : Xc M S) (ho : Off M M' P) (hp : ∀ a, a < 80 → ¬ P a) (h83 : ∀ j, j < 8 → M'.1 83 j = nI 0) : Xc M' S := by
  obtain ⟨h1, h2, h3, h4, h5, h6⟩ := h
  exact ⟨h1.off ho (fun k hk => hp _ (by omega)), h2.off ho (fun a ha => hp a (by unfold inK at ha; omega)), fun t ht => by rw [(ho.1 75 (hp 75 (by decide))).1]; exact h3 t ht, fun t ht hf => (h4 t ht hf).off ho (fun k hk => hp _ (by omega)), h5.of ho.of (hp 77 (by decide)) (hp 78 (by decide)), h83⟩
theorem Xc.keep {M M' : MM} {S : SS} {t : Nat} (h : Xc M S) (ht : t < 2) (hB : Bu M' (1 + t) S.1) (ho : Off M M' (inB (1 + t))) : Xc (setR M' 75 t (bI true)) (setSl S t S.1) := by
  obtain ⟨h1, h2, h3, h4, h5, h6⟩ := h
  have h0 : Off M' (setR M' 75 t (bI true)) (fun a => a = 75) := Off.R rfl
  have ho2 : Off M (setR M' 75 t (bI true)) (fun a => inB (1 + t) a ∨ a = 75) := (ho.mono (fun a ha => Or.inl ha)).tr (h0.mono (fun a ha => Or.inr ha))
  refine ⟨h1.off ho2 (fun k hk => by unfold inB; omega), h2.off ho2 (fun a ha => by unfold inK at ha; unfold inB; omega), fun u hu => ?_, fun u hu hf => ?_, h5.of ho2.of (by unfold inB; omega) (by unfold inB; omega), fun j hj => by rw [(ho2.1 83 (by unfold inB; omega)).1]; exact h6 j hj⟩
  · show (setR M' 75 t (bI true)).1 75 u = bI (if u = t then true else S.2.2.2.2.1 u)
    rw [setR_eq]
    by_cases e : u = t
    · subst e; rw [upd_eq, if_pos rfl]
    · rw [upd_ne e, if_neg e, (ho.1 75 (by unfold inB; omega)).1]; exact h3 u hu
  · show Bu _ (1 + u) (if u = t then S.1 else S.2.2.2.1 u)
    by_cases e : u = t
    · subst e; rw [if_pos rfl]; exact hB.off h0 (fun k hk => by omega)
    · rw [if_neg e]
      have hf2 : S.2.2.2.2.1 u = true := by
        have : (if u = t then true else S.2.2.2.2.1 u) = true := hf
        rw [if_neg e] at this; exact this
      exact (h4 u hu hf2).off ho2 (fun k hk => by unfold inB; omega)
theorem Xc.pop {M M' : MM} {S : SS} (h : Xc M S) (hM : Mem M' (S.2.1 - 1) S.2.2.1) (hB : Bu M' 0 (S.2.2.1 (S.2.1 - 1))) (ho : Of M M' (fun a => inB 0 a ∨ a = 73)) : Xc M' (popS S) := by
  obtain ⟨h1, h2, h3, h4, h5, h6⟩ := h
  exact ⟨hB, hM, fun t ht => by rw [(ho.1 75 (by unfold inB; omega)).1]; exact h3 t ht, fun t ht hf => (h4 t ht hf).of ho (fun k hk => by unfold inB; omega), h5.of ho (by unfold inB; omega) (by unfold inB; omega), fun j hj => by rw [(ho.1 83 (by unfold inB; omega)).1]; exact h6 j hj⟩
theorem OkS.save {S : SS} (h : OkS S) : OkS (savS S) := by
  obtain ⟨h1, h2, h3⟩ := h
  refine ⟨h1, fun k hk => ?_, h3⟩
  have hk2 : k < svN S.2.1 := hk
  show Wf (svS S.2.1 S.2.2.1 S.1 k)
  unfold svN at hk2; unfold svS
  by_cases e : S.2.1 = 6
  · rw [if_pos e] at hk2 ⊢
    show Wf (if k = 5 then S.1 else S.2.2.1 (k + 1))
    by_cases e2 : k = 5
    · rw [if_pos e2]; exact h1
    · rw [if_neg e2]; exact h2 (k + 1) (by omega)
  · rw [if_neg e] at hk2 ⊢
    show Wf (if k = S.2.1 then S.1 else S.2.2.1 k)
    by_cases e2 : k = S.2.1
    · rw [if_pos e2]; exact h1
    · rw [if_neg e2]; exact h2 k (by omega)
theorem OkS.cur {S : SS} {σ : Sg} (h : OkS S) (hW : Wf σ) : OkS (setC S σ) := ⟨hW, h.2⟩
theorem OkS.text {S : SS} {n : Nat} {f : Nat → Nat} (h : OkS S) : OkS (setT S n f) := h
theorem OkS.keep {S : SS} {t : Nat} (h : OkS S) : OkS (setSl S t S.1) := by
  refine ⟨h.1, h.2.1, fun u hu hf => ?_⟩
  show Wf (if u = t then S.1 else S.2.2.2.1 u)
  by_cases e : u = t
  · rw [if_pos e]; exact h.1
  · rw [if_neg e]
    have hf2 : (if u = t then true else S.2.2.2.2.1 u) = true := hf
    rw [if_neg e] at hf2
    exact h.2.2 u hu hf2
theorem OkS.pop {S : SS} (h : OkS S) (h0 : 0 < S.2.1) : OkS (popS S) := ⟨h.2.1 _ (show S.2.1 - 1 < S.2.1 by omega), fun k hk => h.2.1 k (by have : k < S.2.1 - 1 := hk; omega), h.2.2⟩
/-- one number of the state is changed, and stays in its range -/
def rng (k : Nat) : Nat := if k < 32 then (if k % 4 = 3 then 8 else 9) else if k < 44 then (if k % 3 = 2 then 3 else if k % 3 = 0 then 27 else 4) else if k = 44 then 6 else if k < 57 then 7 else 0
theorem Wf_rg {σ : Sg} (h : Wf σ) : ∀ j, j < 57 → σ j ≤ rng j := by
  obtain ⟨h1, h2, h3, h4⟩ := h
  intro j hj
  rcases Nat.lt_or_ge j 32 with a | a
  · obtain ⟨q1, q2, q3, q4⟩ := h1 (j / 4) (by omega)
    have e : rng j = if j % 4 = 3 then 8 else 9 := if_pos a
    rw [e]
    rcases (show j % 4 = 0 ∨ j % 4 = 1 ∨ j % 4 = 2 ∨ j % 4 = 3 by omega) with r | r | r | r
    · rw [if_neg (by omega), show j = 4 * (j / 4) by omega]; exact q1
    · rw [if_neg (by omega), show j = 4 * (j / 4) + 1 by omega]; exact q2
    · rw [if_neg (by omega), show j = 4 * (j / 4) + 2 by omega]; exact q3
    · rw [if_pos r, show j = 4 * (j / 4) + 3 by omega]; exact q4
  · rcases Nat.lt_or_ge j 44 with b | b
    · obtain ⟨q1, q2, q3⟩ := h2 ((j - 32) / 3) (by omega)
      have e : rng j = if j % 3 = 2 then 3 else if j % 3 = 0 then 27 else 4 := (if_neg (by omega)).trans (if_pos b)
      rw [e]
      rcases (show j % 3 = 0 ∨ j % 3 = 1 ∨ j % 3 = 2 by omega) with r | r | r
      · rw [if_neg (by omega), if_pos r, show j = 33 + 3 * ((j - 32) / 3) by omega]; exact q2
      · rw [if_neg (by omega), if_neg (by omega), show j = 34 + 3 * ((j - 32) / 3) by omega]; exact q3
      · rw [if_pos r, show j = 32 + 3 * ((j - 32) / 3) by omega]; exact q1
    · by_cases c : j = 44
      · subst c; exact h3
      · obtain ⟨q1, q2⟩ := h4 ((j - 45) / 2) (by omega)
        have e : rng j = 7 := ((if_neg (by omega)).trans (if_neg (by omega))).trans ((if_neg c).trans (if_pos hj))
        rw [e]
        rcases (show j % 2 = 0 ∨ j % 2 = 1 by omega) with r | r
        · rw [show j = 46 + 2 * ((j - 45) / 2) by omega]; exact q2
        · rw [show j = 45 + 2 * ((j - 45) / 2) by omega]; exact q1
theorem Wf_ofRng {σ : Sg} (h : ∀ j, j < 57 → σ j ≤ rng j) : Wf σ := by
  refine ⟨fun p hp => ⟨?_, ?_, ?_, ?_⟩, fun q hq => ⟨?_, ?_, ?_⟩, h 44 (by decide), fun c hc => ⟨?_, ?_⟩⟩
  · have := h (4 * p) (by omega); unfold rng at this; rw [if_pos (by omega), if_neg (by omega)] at this; exact this
  · have := h (4 * p + 1) (by omega); unfold rng at this; rw [if_pos (by omega), if_neg (by omega)] at this; exact this
  · have := h (4 * p + 2) (by omega); unfold rng at this; rw [if_pos (by omega), if_neg (by omega)] at this; exact this
  · have := h (4 * p + 3) (by omega); unfold rng at this; rw [if_pos (by omega), if_pos (by omega)] at this; exact this
  · have := h (32 + 3 * q) (by omega); unfold rng at this; rw [if_neg (by omega), if_pos (by omega), if_pos (by omega)] at this; exact this
  · have := h (33 + 3 * q) (by omega); unfold rng at this; rw [if_neg (by omega), if_pos (by omega), if_neg (by omega), if_pos (by omega)] at this; exact this
  · have := h (34 + 3 * q) (by omega); unfold rng at this; rw [if_neg (by omega), if_pos (by omega), if_neg (by omega), if_neg (by omega)] at this; exact this
  · have := h (45 + 2 * c) (by omega); unfold rng at this; rw [if_neg (by omega), if_neg (by omega), if_neg (by omega), if_pos (by omega)] at this; exact this
  · have := h (46 + 2 * c) (by omega); unfold rng at this; rw [if_neg (by omega), if_neg (by omega), if_neg (by omega), if_pos (by omega)] at this; exact this
theorem Wf_upS {σ : Sg} (h : Wf σ) {k v : Nat} (hv : k < 57 → v ≤ rng k) : Wf (upS σ k v) := Wf_ofRng (fun j hj => by
  by_cases e : j = k
  · subst e; rw [upS_eq]; exact hv hj
  · rw [upS_ne e]; exact Wf_rg h j hj)
def setp (σ : Sg) (i k v : Nat) : Sg := upS σ (4 * i + k) v
theorem upc_0 {σ : Sg} {i v : Nat} : upc σ i v (σ (4 * i + 1)) (σ (4 * i + 2)) = upS σ (4 * i + 0) v := by
  funext j; unfold upc upS
  by_cases e2 : j = 4 * i + 2
  · rw [if_pos e2, if_neg (by omega), e2]
  · rw [if_neg e2]
    by_cases e1 : j = 4 * i + 1
    · rw [if_pos e1, if_neg (by omega), e1]
    · rw [if_neg e1]; rfl
theorem upc_1 {σ : Sg} {i v : Nat} : upc σ i (σ (4 * i)) v (σ (4 * i + 2)) = upS σ (4 * i + 1) v := by
  funext j; unfold upc upS
  by_cases e2 : j = 4 * i + 2
  · rw [if_pos e2, if_neg (by omega), e2]
  · rw [if_neg e2]
    by_cases e1 : j = 4 * i + 1
    · rw [if_pos e1, if_pos e1]
    · rw [if_neg e1, if_neg e1]
      by_cases e0 : j = 4 * i
      · rw [if_pos e0, e0]
      · rw [if_neg e0]
theorem upc_2 {σ : Sg} {i v : Nat} : upc σ i (σ (4 * i)) (σ (4 * i + 1)) v = upS σ (4 * i + 2) v := by
  funext j; unfold upc upS
  by_cases e2 : j = 4 * i + 2
  · rw [if_pos e2, if_pos e2]
  · rw [if_neg e2, if_neg e2]
    by_cases e1 : j = 4 * i + 1
    · rw [if_pos e1, e1]
    · rw [if_neg e1]
      by_cases e0 : j = 4 * i
      · rw [if_pos e0, e0]
      · rw [if_neg e0]
theorem Bu_part {M : MM} {b : Nat} {σ : Sg} {i k v : Nat} (hi : i < 8) (hk : k ≤ 2) (h : Bu M b σ) : Bu (setR M (8 * b + 1) i (nI (st3 k v (σ (4 * i)) (σ (4 * i + 1)) (σ (4 * i + 2))))) b (setp σ i k v) := by
  unfold setp
  rcases (show k = 0 ∨ k = 1 ∨ k = 2 by omega) with rfl | rfl | rfl
  · rw [← upc_0]; exact Bu_col hi h
  · rw [← upc_1]; exact Bu_col hi h
  · rw [← upc_2]; exact Bu_col hi h
def svW (S : SS) (σ : Sg) : SS := setC (savS S) σ
theorem arrlen_ok (i : Nat) : True := trivial
/-- what the public methods answer and do -/
def st_text (S : SS) (c : Nat) : SS := setT S (S.2.2.2.2.2.1 + 1) (fun j => if j = S.2.2.2.2.2.1 then c else S.2.2.2.2.2.2 j)
theorem Tx_add {M : MM} {n c : Nat} {f : Nat → Nat} (h : Tx M n f) (hn : n < 60) (hc : 33 ≤ c ∧ c ≤ 126) : Tx (setV (setR M 78 n (nI c)) 77 1 (nI (n + 1))) (n + 1) (fun j => if j = n then c else f j) := by
  refine ⟨hn, setV_eq, fun j hj => ?_, fun j hj => ?_⟩
  · show (setR M 78 n (nI c)).1 78 j = nI (if j = n then c else f j)
    rw [setR_eq]
    by_cases e : j = n
    · rw [if_pos e, e, upd_eq]
    · rw [if_neg e, upd_ne e]; exact h.2.2.1 j (by omega)
  · show 33 ≤ (if j = n then c else f j) ∧ (if j = n then c else f j) ≤ 126
    by_cases e : j = n
    · rw [if_pos e]; exact hc
    · rw [if_neg e]; exact h.2.2.2 j (by omega)
theorem Tx_clear {M : MM} {n : Nat} {f : Nat → Nat} (h : Tx M n f) : Tx (setV M 77 1 (nI 0)) 0 f := ⟨by decide, setV_eq, fun j hj => absurd hj (Nat.not_lt_zero j), fun j hj => absurd hj (Nat.not_lt_zero j)⟩
theorem bI_true : nI 1 = bI true := rfl
theorem lN_bI : (bI true) = nI 1 := rfl
def brw (p q : Nat) : Nat := if p = q then 0 else q + 1
def bestF (σ : Sg) : Nat → Nat × Nat
  | 0 => (0, 0)
  | n + 1 => if (bestF σ n).2 < pr σ n + 1 then (n, pr σ n + 1) else bestF σ n
def bst (σ : Sg) : Nat := (bestF σ 4).1
def sumP (σ : Sg) : Nat → Nat
  | 0 => 0
  | n + 1 => sumP σ n + pr σ n
theorem bestF_t {σ : Sg} {n : Nat} {a : Nat × Nat} (ha : a = bestF σ n) (h : a.2 ≤ pr σ n) : (n, pr σ n + 1) = bestF σ (n + 1) := by
  subst ha; show _ = if _ then _ else _; rw [if_pos (by omega)]
theorem bestF_f {σ : Sg} {n : Nat} {a : Nat × Nat} (ha : a = bestF σ n) (h : pr σ n < a.2) : a = bestF σ (n + 1) := by
  subst ha; show _ = if _ then _ else _; rw [if_neg (by omega)]
theorem pr_le (σ : Sg) (p : Nat) : pr σ p ≤ 64 := cntN_le _ 64
theorem bestF_le (σ : Sg) : ∀ n, (bestF σ n).1 ≤ n ∧ (bestF σ n).2 ≤ 65
  | 0 => ⟨Nat.le_refl 0, Nat.zero_le 65⟩
  | n + 1 => by
    have ih := bestF_le σ n
    have := pr_le σ n
    show (if (bestF σ n).2 < pr σ n + 1 then (n, pr σ n + 1) else bestF σ n).1 ≤ _ ∧ (if (bestF σ n).2 < pr σ n + 1 then (n, pr σ n + 1) else bestF σ n).2 ≤ _
    split
    · exact ⟨Nat.le_succ n, by show pr σ n + 1 ≤ 65; omega⟩
    · exact ⟨by omega, ih.2⟩
def ofP (σ : Sg) (i what : Nat) : Int32 := if what < 3 then nI (pr3 what (σ (4 * i)) (σ (4 * i + 1)) (σ (4 * i + 2))) else if what = 3 then oI (σ (4 * i + 3)) else nI (tom σ i)
def sen (σ : Sg) (p i : Nat) : Nat := cod (sR (σ (32 + 3 * p)) (σ (4 * i)) (σ (4 * i + 1)) (σ (4 * i + 2))) (sG (σ (32 + 3 * p)) (σ (4 * i)) (σ (4 * i + 1)) (σ (4 * i + 2))) (sB (σ (32 + 3 * p)) (σ (4 * i)) (σ (4 * i + 1)) (σ (4 * i + 2)))
def ofN (σ : Sg) (p what : Nat) : Int32 := match what with
  | 0 => nI (σ (32 + 3 * p))
  | 1 => nI (σ (33 + 3 * p))
  | 2 => oI (σ (34 + 3 * p))
  | 3 => nI (pr σ p)
  | 4 => nI (wrg σ p)
  | 5 => bI (decide (wrg σ p = 0))
  | _ => nI (crd σ p)
def ofC (σ : Sg) (c what : Nat) : Int32 := match what with
  | 0 => nI (σ (45 + 2 * c))
  | 1 => nI (σ (46 + 2 * c))
  | _ => nI (rdm σ c)
def cnt8 (S : SS) (what : Nat) : Int32 := match what with
  | 0 => nI (labd S.1)
  | 1 => nI (popc (lmask S.1))
  | 2 => nI (S.1 44)
  | 3 => nI (nob S.1)
  | 4 => nI (srv S.1)
  | 5 => nI (S.1 57)
  | 6 => nI (S.1 58)
  | _ => nI S.2.1
