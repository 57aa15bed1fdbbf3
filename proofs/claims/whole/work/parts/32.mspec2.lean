def lmF (σ : Sg) : Nat → Nat := fun p => bif decide (lab σ p = 0) then 0 else 2 ^ (lab σ p - 1)
def isL (σ : Sg) (i acc : Nat) : Bool := !decide (lab σ i = 0) && !bit acc (lab σ i - 1)
theorem isL_t {σ : Sg} {i acc : Nat} (h : ¬ lab σ i = 0) (h2 : bit acc (lab σ i - 1) = false) : nI 1 = bI (isL σ i acc) := by unfold isL; rw [decide_eq_false h, h2]; rfl
theorem isL_f1 {σ : Sg} {i acc : Nat} (h : lab σ i = 0) : nI 0 = bI (isL σ i acc) := by unfold isL; rw [decide_eq_true h]; rfl
theorem isL_f2 {σ : Sg} {i acc : Nat} (h2 : bit acc (lab σ i - 1) = true) : nI 0 = bI (isL σ i acc) := by unfold isL; rw [h2, Bool.not_true, Bool.and_false]; rfl
theorem isL_ne {σ : Sg} {i acc : Nat} (h : isL σ i acc = true) : ¬ lab σ i = 0 ∧ bit acc (lab σ i - 1) = false := by
  unfold isL at h
  rw [Bool.and_eq_true] at h
  exact ⟨of_decide_eq_false (by simpa using h.1), by simpa using h.2⟩
theorem lm_t {σ : Sg} {i acc : Nat} (ha : acc = orN i (lmF σ)) (h : isL σ i acc = true) : acc ||| 2 ^ (lab σ i - 1) = orN (i + 1) (lmF σ) := or_t ha (by unfold lmF; rw [decide_eq_false (isL_ne h).1]; rfl)
theorem lm_f {σ : Sg} {i acc : Nat} (ha : acc = orN i (lmF σ)) (hlt : acc < 256) (hl : lab σ i ≤ 8) (h : isL σ i acc = false) : acc ||| 0 = orN (i + 1) (lmF σ) := by
  rw [Nat.or_zero]
  by_cases e : lab σ i = 0
  · exact or_f ha (by unfold lmF; rw [decide_eq_true e]; rfl)
  · have hb : bit acc (lab σ i - 1) = true := by
      unfold isL at h
      rw [decide_eq_false e] at h
      simpa using h
    rw [orN_s, ← ha]
    have e2 : lmF σ i = 2 ^ (lab σ i - 1) := by unfold lmF; rw [decide_eq_false e]; rfl
    rw [e2, popc_or2 hlt (by omega) hb]
theorem bit_nat (a k : Nat) : a / 2 ^ k &&& 1 = bif bit a k then 1 else 0 := by
  rw [Nat.and_one_is_mod]
  unfold bit
  rcases Nat.mod_two_eq_zero_or_one (a / 2 ^ k) with h | h
  · rw [h]; rfl
  · rw [h]; rfl
/-- the model's buffer -/
def Tm (M : MM) (n : Nat) (f : Nat → Nat) : Prop := n ≤ 60 ∧ M.2.1 84 4 = nI n ∧ (∀ j, j < n → M.1 87 j = nI (f j)) ∧ ∀ j, j < n → 33 ≤ f j ∧ f j ≤ 126
theorem inI_dec {a lo hi : Nat} (ha : a < 2 ^ 31) (hl : lo < 2 ^ 31) (hh : hi < 2 ^ 31) : inI (nI a) (nI lo) (nI hi) = decide (lo ≤ a ∧ a ≤ hi) := by
  by_cases h : lo ≤ a ∧ a ≤ hi
  · rw [decide_eq_true h]; exact inI_N h.1 h.2 hh
  · rw [decide_eq_false h]
    by_cases h1 : lo ≤ a
    · exact inI_f2 (fun q => h ⟨h1, (nI_leI ha hh).mp q⟩)
    · exact inI_f1 (fun q => h1 ((nI_leI hl ha).mp q))
theorem orN_tb {f : Nat → Nat} {x : Nat} : ∀ {n : Nat}, (orN n f).testBit x = true ↔ ∃ k, k < n ∧ (f k).testBit x = true
  | 0 => ⟨fun h => absurd ((Nat.zero_testBit x).symm.trans (show (0 : Nat).testBit x = true from h)) (by decide), fun ⟨k, h, _⟩ => absurd h (Nat.not_lt_zero k)⟩
  | n + 1 => by
    rw [orN_s, Nat.testBit_or, Bool.or_eq_true, orN_tb]
    constructor
    · rintro (⟨k, h1, h2⟩ | h)
      · exact ⟨k, by omega, h2⟩
      · exact ⟨n, by omega, h⟩
    · rintro ⟨k, h1, h2⟩
      by_cases e : k = n
      · subst e; exact Or.inr h2
      · exact Or.inl ⟨k, by omega, h2⟩
theorem tb_b {b : Bool} {q x : Nat} : (bif b then 2 ^ q else 0).testBit x = true ↔ b = true ∧ q = x := by
  cases b with
  | false => exact ⟨fun h => absurd ((Nat.zero_testBit x).symm.trans (show (0 : Nat).testBit x = true from h)) (by decide), fun h => absurd h.1 (by decide)⟩
  | true =>
    show (2 ^ q).testBit x = true ↔ _
    rw [Nat.testBit_two_pow]
    simp
theorem tom_eq (σ : Sg) (i : Nat) : orN 32 (fun k => bif ap σ (k / 8) i (k % 8) then 2 ^ (k / 8) else 0) = tom σ i := by
  apply Nat.eq_of_testBit_eq
  intro x
  rw [Bool.eq_iff_iff]
  unfold tom tpm
  rw [orN_tb, orN_tb]
  constructor
  · rintro ⟨k, h1, h2⟩
    obtain ⟨h3, h4⟩ := tb_b.mp h2
    exact ⟨k % 8, by omega, orN_tb.mpr ⟨k / 8, by omega, tb_b.mpr ⟨h3, h4⟩⟩⟩
  · rintro ⟨j, h1, h2⟩
    obtain ⟨p, h3, h4⟩ := orN_tb.mp h2
    obtain ⟨h5, h6⟩ := tb_b.mp h4
    refine ⟨8 * p + j, by omega, tb_b.mpr ?_⟩
    rw [(dm8 h1).1, (dm8 h1).2]
    exact ⟨h5, h6⟩
theorem tom_lt (σ : Sg) (i n : Nat) (hn : n ≤ 32) : orN n (fun k => bif ap σ (k / 8) i (k % 8) then 2 ^ (k / 8) else 0) < 2 ^ 4 := orN_lt (fun k hk => by
  cases ap σ (k / 8) i (k % 8)
  · exact Nat.two_pow_pos 4
  · exact Nat.pow_lt_pow_right (by decide) (by omega))
def alk (σ : Sg) (k : Nat) : Bool := decide (k / 8 < k % 8) && (!decide (lab σ (k / 8) = 0) && decide (lab σ (k / 8) = lab σ (k % 8)))
theorem alk_t {σ : Sg} {k : Nat} (h1 : k / 8 < k % 8) (h2 : ¬ lab σ (k / 8) = 0) (h3 : lab σ (k / 8) = lab σ (k % 8)) : nI 1 = bI (alk σ k) := by unfold alk; rw [decide_eq_true h1, decide_eq_false h2, decide_eq_true h3]; rfl
theorem alk_f1 {σ : Sg} {k : Nat} (h1 : k % 8 ≤ k / 8) : nI 0 = bI (alk σ k) := by unfold alk; rw [decide_eq_false (Nat.not_lt.mpr h1)]; rfl
theorem alk_f2 {σ : Sg} {k : Nat} (h2 : lab σ (k / 8) = 0) : nI 0 = bI (alk σ k) := by unfold alk; rw [decide_eq_true h2, Bool.not_true, Bool.false_and, Bool.and_false]; rfl
theorem alk_f3 {σ : Sg} {k : Nat} (h3 : ¬ lab σ (k / 8) = lab σ (k % 8)) : nI 0 = bI (alk σ k) := by unfold alk; rw [decide_eq_false h3, Bool.and_false, Bool.and_false]; rfl
theorem wrF_alk (σ : Sg) (p k : Nat) : wrF σ p k = (alk σ k && ap σ p (k / 8) (k % 8)) := by unfold wrF alk; simp [Bool.and_assoc]
def tdF (σ : Sg) (k : Nat) : Nat → Bool
  | 0 => !decide (k / 8 < k % 8)
  | p + 1 => tdF σ k p || ap σ p (k / 8) (k % 8)
theorem nob_key : ∀ a0 a1 a2 a3 d : Bool, (d && decide (((((0 ||| (bif a0 then 2 ^ 0 else 0)) ||| (bif a1 then 2 ^ 1 else 0)) ||| (bif a2 then 2 ^ 2 else 0)) ||| (bif a3 then 2 ^ 3 else 0)) = 0)) = !(((((!d) || a0) || a1) || a2) || a3) := by decide
theorem nob_td (σ : Sg) (k : Nat) : nobF σ k = !tdF σ k 4 := nob_key _ _ _ _ _
theorem bestF_in (σ : Sg) : ∀ n, 0 < n → (bestF σ n).2 = pr σ (bestF σ n).1 + 1 ∧ (bestF σ n).1 < n
  | 1, _ => ⟨rfl, by show (if (bestF σ 0).2 < pr σ 0 + 1 then (0, pr σ 0 + 1) else bestF σ 0).1 < 1; split <;> exact Nat.one_pos⟩
  | n + 2, _ => by
    have ih := bestF_in σ (n + 1) (by omega)
    show (if (bestF σ (n + 1)).2 < pr σ (n + 1) + 1 then (n + 1, pr σ (n + 1) + 1) else bestF σ (n + 1)).2 = pr σ (if (bestF σ (n + 1)).2 < pr σ (n + 1) + 1 then (n + 1, pr σ (n + 1) + 1) else bestF σ (n + 1)).1 + 1 ∧ (if (bestF σ (n + 1)).2 < pr σ (n + 1) + 1 then (n + 1, pr σ (n + 1) + 1) else bestF σ (n + 1)).1 < n + 2
    split
    · exact ⟨rfl, by show n + 1 < n + 2; omega⟩
    · exact ⟨ih.1, by omega⟩
theorem best_t {σ : Sg} {n b : Nat} (hn : 0 < n) (hb : b = (bestF σ n).1) (h : pr σ b < pr σ n) : n = (bestF σ (n + 1)).1 := by
  have h2 := (bestF_in σ n hn).1
  show n = (if (bestF σ n).2 < pr σ n + 1 then (n, pr σ n + 1) else bestF σ n).1
  rw [if_pos (by rw [h2, ← hb]; omega)]
theorem best_f {σ : Sg} {n b : Nat} (hn : 0 < n) (hb : b = (bestF σ n).1) (h : pr σ n ≤ pr σ b) : b = (bestF σ (n + 1)).1 := by
  have h2 := (bestF_in σ n hn).1
  show b = (if (bestF σ n).2 < pr σ n + 1 then (n, pr σ n + 1) else bestF σ n).1
  rw [if_neg (by rw [h2, ← hb]; omega)]; exact hb
theorem prW_self (σ : Sg) (p : Nat) : prW σ p (p + 1) = prW σ p 0 := cntN_congr (fun k _ => by
  unfold prF apW tl tC
  simp)
def sn3 (σ : Sg) (p i : Nat) : Nat → Nat
  | 0 => 0
  | n + 1 => 10 * sn3 σ p i n + sP3 (σ (32 + 3 * p)) n (σ (4 * i)) (σ (4 * i + 1)) (σ (4 * i + 2))
theorem sn3_3 (σ : Sg) (p i : Nat) : sn3 σ p i 3 = sen σ p i := by
  show 10 * (10 * (10 * 0 + sR (σ (32 + 3 * p)) (σ (4 * i)) (σ (4 * i + 1)) (σ (4 * i + 2))) + sG (σ (32 + 3 * p)) (σ (4 * i)) (σ (4 * i + 1)) (σ (4 * i + 2))) + sB (σ (32 + 3 * p)) (σ (4 * i)) (σ (4 * i + 1)) (σ (4 * i + 2)) = 100 * sR (σ (32 + 3 * p)) (σ (4 * i)) (σ (4 * i + 1)) (σ (4 * i + 2)) + 10 * sG (σ (32 + 3 * p)) (σ (4 * i)) (σ (4 * i + 1)) (σ (4 * i + 2)) + sB (σ (32 + 3 * p)) (σ (4 * i)) (σ (4 * i + 1)) (σ (4 * i + 2))
  omega
