/-- the buffer holds n characters, those of f -/
def Tx (M : MM) (n : Nat) (f : Nat → Nat) : Prop := n ≤ 60 ∧ M.2.1 77 1 = nI n ∧ (∀ j, j < n → M.1 78 j = nI (f j)) ∧ ∀ j, j < n → 33 ≤ f j ∧ f j ≤ 126
theorem Tx.of {M M' : MM} {n : Nat} {f : Nat → Nat} {P : Nat → Prop} (h : Tx M n f) (ho : Of M M' P) (h1 : ¬ P 77) (h2 : ¬ P 78) : Tx M' n f := ⟨h.1, by rw [(ho.1 77 h1).2]; exact h.2.1, fun j hj => by rw [(ho.1 78 h2).1]; exact h.2.2.1 j hj, h.2.2.2⟩
def fitB (pl c : Nat) : Bool := match pl with
  | 0 => decide (48 ≤ c ∧ c < 56)
  | 1 => decide (c = 61)
  | 5 => decide (c = 59)
  | _ => decide (48 ≤ c ∧ c ≤ 57)
/-- the first place that isn't right, from i on, n places on at the most -/
def ffF : Nat → (Nat → Bool) → Nat → Nat
  | 0, _, i => i
  | n + 1, ok, i => bif ok i then ffF n ok (i + 1) else i
theorem ffF_s {ok : Nat → Bool} {m : Nat} : ∀ (i n : Nat), i + n = m → (∀ j, j < i → ok j = true) → ffF m ok 0 = ffF n ok i
  | 0, n, h, _ => by have e : n = m := by omega
                     rw [e]
  | i + 1, n, h, hb => by
    rw [ffF_s i (n + 1) (by omega) (fun j hj => hb j (by omega))]
    show (bif ok i then ffF n ok (i + 1) else i) = _
    rw [hb i (by omega)]; rfl
theorem ffF_is {ok : Nat → Bool} {m i : Nat} (hi : i ≤ m) (hb : ∀ j, j < i → ok j = true) (h : i = m ∨ ok i = false) : ffF m ok 0 = i := by
  rw [ffF_s i (m - i) (by omega) hb]
  rcases h with h | h
  · subst h; rw [Nat.sub_self]; rfl
  · cases hn : m - i with
    | zero => rfl
    | succ n => show (bif ok i then ffF n ok (i + 1) else i) = i; rw [h]; rfl
theorem ffF_all {ok : Nat → Bool} {m : Nat} (h : ffF m ok 0 = m) : ∀ j, j < m → ok j = true := by
  obtain ⟨i, h1, h2⟩ := pk_least (fun i => i = m ∨ ok i = false) ⟨m, Or.inl rfl⟩
  have hi : i ≤ m := by
    rcases Nat.lt_or_ge m i with q | q
    · exact absurd (Or.inl rfl) (h2 m q)
    · exact q
  have hb : ∀ j, j < i → ok j = true := fun j hj => by
    cases hq : ok j with
    | true => rfl
    | false => exact absurd (Or.inr hq) (h2 j hj)
  rw [ffF_is hi hb h1] at h
  subst h
  exact hb
def okT (f : Nat → Nat) : Nat → Bool := fun j => fitB (j % 6) (f j)
def erT (n : Nat) (f : Nat → Nat) : Nat := ffF n (okT f) 0
def tpT (n : Nat) (f : Nat → Nat) : Bool := decide (n % 6 = 5) && decide (erT n f = n)
/-- the pots behind k of the texts of the buffer -/
def gvS (σ : Sg) (f : Nat → Nat) : Nat → Sg
  | 0 => σ
  | k + 1 => upc (gvS σ f k) (f (6 * k) - 48) (f (6 * k + 2) - 48) (f (6 * k + 3) - 48) (f (6 * k + 4) - 48)
theorem tpT_ok {n : Nat} {f : Nat → Nat} (h : tpT n f = true) : n % 6 = 5 ∧ ∀ k, 6 * k < n → (48 ≤ f (6 * k) ∧ f (6 * k) < 56) ∧ (48 ≤ f (6 * k + 2) ∧ f (6 * k + 2) ≤ 57) ∧ (48 ≤ f (6 * k + 3) ∧ f (6 * k + 3) ≤ 57) ∧ (48 ≤ f (6 * k + 4) ∧ f (6 * k + 4) ≤ 57) := by
  unfold tpT at h
  rw [Bool.and_eq_true] at h
  have h1 := of_decide_eq_true h.1
  have h2 := ffF_all (of_decide_eq_true h.2)
  refine ⟨h1, fun k hk => ?_⟩
  have e0 := h2 (6 * k) (by omega)
  have e2 := h2 (6 * k + 2) (by omega)
  have e3 := h2 (6 * k + 3) (by omega)
  have e4 := h2 (6 * k + 4) (by omega)
  unfold okT at e0 e2 e3 e4
  rw [show 6 * k % 6 = 0 by omega] at e0
  rw [show (6 * k + 2) % 6 = 2 by omega] at e2
  rw [show (6 * k + 3) % 6 = 3 by omega] at e3
  rw [show (6 * k + 4) % 6 = 4 by omega] at e4
  exact ⟨of_decide_eq_true e0, of_decide_eq_true e2, of_decide_eq_true e3, of_decide_eq_true e4⟩
theorem Wf.upc {σ : Sg} (h : Wf σ) {i r g b : Nat} (hi : i < 8) (hr : r ≤ 9) (hg : g ≤ 9) (hb : b ≤ 9) : Wf (upc σ i r g b) := by
  obtain ⟨h1, h2, h3, h4⟩ := h
  refine ⟨fun p hp => ?_, fun q hq => ?_, ?_, fun c hc => ?_⟩
  · obtain ⟨q1, q2, q3, q4⟩ := h1 p hp
    by_cases e : p = i
    · subst e
      rw [upc_r, upc_g, upc_b, upc_ne (by omega) (by omega) (by omega)]
      exact ⟨hr, hg, hb, q4⟩
    · rw [upc_ne (by omega) (by omega) (by omega), upc_ne (by omega) (by omega) (by omega), upc_ne (by omega) (by omega) (by omega), upc_ne (by omega) (by omega) (by omega)]
      exact ⟨q1, q2, q3, q4⟩
  · rw [upc_ne (by omega) (by omega) (by omega), upc_ne (by omega) (by omega) (by omega), upc_ne (by omega) (by omega) (by omega)]; exact h2 q hq
  · rw [upc_ne (by omega) (by omega) (by omega)]; exact h3
  · rw [upc_ne (by omega) (by omega) (by omega), upc_ne (by omega) (by omega) (by omega)]; exact h4 c hc
theorem Wf.gvS {σ : Sg} (h : Wf σ) {f : Nat → Nat} {n : Nat} (ht : tpT n f = true) : ∀ k, 6 * k ≤ n + 1 → Wf (gvS σ f k)
  | 0, _ => h
  | k + 1, hk => by
    obtain ⟨h5, h6⟩ := tpT_ok ht
    obtain ⟨a0, a2, a3, a4⟩ := h6 k (by omega)
    exact (Wf.gvS h ht k (by omega)).upc (by omega) (by omega) (by omega) (by omega)
