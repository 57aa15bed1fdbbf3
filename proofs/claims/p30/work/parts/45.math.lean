/-! counting -/
theorem cntN_mono {f g : Nat → Bool} : ∀ {n : Nat}, (∀ k, k < n → f k = true → g k = true) → cntN n f ≤ cntN n g
  | 0, _ => Nat.le_refl 0
  | n + 1, h => by
    have ih := cntN_mono (f := f) (g := g) (n := n) (fun k hk => h k (by omega))
    cases hf : f n with
    | false =>
      rw [cntN_f hf]
      cases hg : g n with
      | false => rw [cntN_f hg]; exact ih
      | true => rw [cntN_t hg]; omega
    | true => rw [cntN_t hf, cntN_t (h n (by omega) hf)]; omega
theorem cntN_zero {f : Nat → Bool} : ∀ {n : Nat}, (∀ k, k < n → f k = false) → cntN n f = 0
  | 0, _ => rfl
  | n + 1, h => by rw [cntN_f (h n (by omega))]; exact cntN_zero (fun k hk => h k (by omega))
theorem cntN_all {f : Nat → Bool} : ∀ {n : Nat}, (∀ k, k < n → f k = true) → cntN n f = n
  | 0, _ => rfl
  | n + 1, h => by rw [cntN_t (h n (by omega)), cntN_all (fun k hk => h k (by omega))]
theorem cntN_up {f : Nat → Bool} {a : Nat} : ∀ {b : Nat}, a ≤ b → cntN a f ≤ cntN b f
  | 0, h => by rw [show a = 0 by omega]; exact Nat.le_refl _
  | b + 1, h => by
    rcases Nat.lt_or_ge a (b + 1) with q | q
    · have ih := cntN_up (f := f) (a := a) (b := b) (by omega)
      cases hf : f b with
      | false => rw [cntN_f hf]; exact ih
      | true => rw [cntN_t hf]; omega
    · rw [show a = b + 1 by omega]; exact Nat.le_refl _
theorem cntN_lt {f : Nat → Bool} {l n : Nat} (hl : l < n) (hf : f l = true) : cntN l f < cntN n f := by
  have h := cntN_up (f := f) (a := l + 1) (b := n) hl
  rw [cntN_t hf] at h
  omega
theorem cntN_add {f g h : Nat → Bool} : ∀ {n : Nat}, (∀ k, k < n → (bif f k then 1 else 0) = (bif g k then 1 else 0) + (bif h k then 1 else 0)) → cntN n f = cntN n g + cntN n h
  | 0, _ => rfl
  | n + 1, H => by
    have ih := cntN_add (f := f) (g := g) (h := h) (n := n) (fun k hk => H k (by omega))
    have h0 := H n (by omega)
    rw [cntN_s, cntN_s, cntN_s, ih, h0]
    omega
theorem cntN_rm {h : Nat → Bool} {x : Nat} : ∀ n, cntN n h ≤ cntN n (fun m => h m && !decide (m = x)) + 1
  | 0 => Nat.zero_le _
  | n + 1 => by
    by_cases e : n = x
    · have e2 : cntN n h = cntN n (fun m => h m && !decide (m = x)) := cntN_congr (fun m hm => by
        rw [decide_eq_false (show ¬ m = x by omega), Bool.not_false, Bool.and_true])
      rw [cntN_f (f := fun m => h m && !decide (m = x)) (n := n) (by show (h n && !decide (n = x)) = false; rw [decide_eq_true e, Bool.not_true, Bool.and_false]), ← e2]
      cases hf : h n with
      | false => rw [cntN_f hf]; omega
      | true => rw [cntN_t hf]; omega
    · have ih := cntN_rm (h := h) (x := x) n
      cases hf : h n with
      | false =>
        rw [cntN_f hf, cntN_f (f := fun m => h m && !decide (m = x)) (n := n) (by show (h n && !decide (n = x)) = false; rw [hf, Bool.false_and])]
        exact ih
      | true =>
        rw [cntN_t hf, cntN_t (f := fun m => h m && !decide (m = x)) (n := n) (by show (h n && !decide (n = x)) = true; rw [hf, decide_eq_false e]; rfl)]
        omega
theorem cntN_surj {N : Nat} {g : Nat → Nat} {f : Nat → Bool} : ∀ {n : Nat} {h : Nat → Bool}, (∀ m, m < N → h m = true → ∃ k, k < n ∧ f k = true ∧ g k = m) → cntN N h ≤ cntN n f
  | 0, h, H => by
    rw [cntN_zero (f := h) (fun m hm => by
      cases hh : h m with
      | false => rfl
      | true => obtain ⟨k, k1, -⟩ := H m hm hh; omega)]
    exact Nat.zero_le _
  | n + 1, h, H => by
    cases hf : f n with
    | false =>
      rw [cntN_f hf]
      refine cntN_surj (g := g) (fun m hm hh => ?_)
      obtain ⟨k, k1, k2, k3⟩ := H m hm hh
      have hk : k ≠ n := fun e => by rw [e, hf] at k2; cases k2
      exact ⟨k, by omega, k2, k3⟩
    | true =>
      rw [cntN_t hf]
      have h1 := cntN_rm (h := h) (x := g n) N
      have h2 := cntN_surj (N := N) (g := g) (f := f) (n := n) (h := fun m => h m && !decide (m = g n)) (fun m hm hh => by
        have hh2 : (h m && !decide (m = g n)) = true := hh
        rw [Bool.and_eq_true] at hh2
        obtain ⟨k, k1, k2, k3⟩ := H m hm hh2.1
        have hk : k ≠ n := fun e => by
          have h3 := hh2.2
          rw [← e, k3, decide_eq_true rfl] at h3
          cases h3
        exact ⟨k, by omega, k2, k3⟩)
      omega
section SY
variable {R : Nat → Nat → Bool}
/-- pairs of a row that looks the same from both sides -/
theorem low_le (hy : ∀ i j, R i j = R j i) : cntN 64 (fun m => decide (m % 8 < m / 8) && R (m / 8) (m % 8)) ≤ cntN 64 (fun m => decide (m / 8 < m % 8) && R (m / 8) (m % 8)) := by
  refine cntN_surj (g := fun m => 8 * (m % 8) + m / 8) (fun m hm hh => ?_)
  have hh2 : (decide (m % 8 < m / 8) && R (m / 8) (m % 8)) = true := hh
  rw [Bool.and_eq_true] at hh2
  have h1 := of_decide_eq_true hh2.1
  refine ⟨8 * (m % 8) + m / 8, by omega, ?_, ?_⟩
  · show (decide ((8 * (m % 8) + m / 8) / 8 < (8 * (m % 8) + m / 8) % 8) && R ((8 * (m % 8) + m / 8) / 8) ((8 * (m % 8) + m / 8) % 8)) = true
    rw [show (8 * (m % 8) + m / 8) / 8 = m % 8 by omega, show (8 * (m % 8) + m / 8) % 8 = m / 8 by omega, decide_eq_true h1, hy]
    exact hh2.2
  · show 8 * ((8 * (m % 8) + m / 8) % 8) + (8 * (m % 8) + m / 8) / 8 = m
    omega
theorem up_le (hy : ∀ i j, R i j = R j i) : cntN 64 (fun m => decide (m / 8 < m % 8) && R (m / 8) (m % 8)) ≤ cntN 64 (fun m => decide (m % 8 < m / 8) && R (m / 8) (m % 8)) := by
  refine cntN_surj (g := fun m => 8 * (m % 8) + m / 8) (fun m hm hh => ?_)
  have hh2 : (decide (m / 8 < m % 8) && R (m / 8) (m % 8)) = true := hh
  rw [Bool.and_eq_true] at hh2
  have h1 := of_decide_eq_true hh2.1
  refine ⟨8 * (m % 8) + m / 8, by omega, ?_, ?_⟩
  · show (decide ((8 * (m % 8) + m / 8) % 8 < (8 * (m % 8) + m / 8) / 8) && R ((8 * (m % 8) + m / 8) / 8) ((8 * (m % 8) + m / 8) % 8)) = true
    rw [show (8 * (m % 8) + m / 8) / 8 = m % 8 by omega, show (8 * (m % 8) + m / 8) % 8 = m / 8 by omega, decide_eq_true h1, hy]
    exact hh2.2
  · show 8 * ((8 * (m % 8) + m / 8) % 8) + (8 * (m % 8) + m / 8) / 8 = m
    omega
theorem low_up (hy : ∀ i j, R i j = R j i) : cntN 64 (fun m => decide (m % 8 < m / 8) && R (m / 8) (m % 8)) = cntN 64 (fun m => decide (m / 8 < m % 8) && R (m / 8) (m % 8)) := Nat.le_antisymm (low_le hy) (up_le hy)
theorem sym_cnt (hy : ∀ i j, R i j = R j i) (hr : ∀ i, R i i = false) : cntN 64 (fun m => R (m / 8) (m % 8)) = 2 * cntN 64 (fun m => decide (m / 8 < m % 8) && R (m / 8) (m % 8)) := by
  have h1 := cntN_add (n := 64) (f := fun m => R (m / 8) (m % 8)) (g := fun m => decide (m / 8 < m % 8) && R (m / 8) (m % 8)) (h := fun m => decide (m % 8 < m / 8) && R (m / 8) (m % 8)) (fun k _ => by
    show (bif R (k / 8) (k % 8) then 1 else 0) = (bif decide (k / 8 < k % 8) && R (k / 8) (k % 8) then 1 else 0) + (bif decide (k % 8 < k / 8) && R (k / 8) (k % 8) then 1 else 0)
    rcases Nat.lt_trichotomy (k / 8) (k % 8) with q | q | q
    · rw [decide_eq_true q, decide_eq_false (show ¬ k % 8 < k / 8 by omega), Bool.true_and, Bool.false_and]; rfl
    · rw [q, hr]; simp
    · rw [decide_eq_true q, decide_eq_false (show ¬ k / 8 < k % 8 by omega), Bool.true_and, Bool.false_and]
      cases R (k / 8) (k % 8) <;> rfl)
  have h2 := low_up hy
  omega
/-! no fewer pairs than the fewest labels make -/
theorem tri_cnt {k : Nat} (h : k ≤ 8) : cntN 64 (fun m => decide (m / 8 < m % 8) && decide (m % 8 < k)) = (k - 1) * k / 2 := by
  have H : ∀ k, k < 9 → cntN 64 (fun m => decide (m / 8 < m % 8) && decide (m % 8 < k)) = (k - 1) * k / 2 := by decide +kernel
  exact H k (by omega)
theorem chi_pair {k : Nat} (hy : ∀ i j, R i j = R j i) (hmin : ∀ m, Cob R (fun _ => true) m → k ≤ m) {c : Nat → Nat} (c1 : ∀ i, i < 8 → c i < k) (c2 : ∀ i j, i < 8 → j < 8 → c i = c j → R i j = false) {a b : Nat} (hab : a < b) (hb : b < k) : ∃ i j, i < 8 ∧ j < 8 ∧ i < j ∧ R i j = true ∧ ((c i = a ∧ c j = b) ∨ (c i = b ∧ c j = a)) := by
  refine Classical.byContradiction (fun hno => ?_)
  have no : ∀ i j, i < 8 → j < 8 → ((c i = a ∧ c j = b) ∨ (c i = b ∧ c j = a)) → R i j = false := by
    intro i j hi hj h
    cases hR : R i j with
    | false => rfl
    | true =>
      exfalso
      rcases Nat.lt_trichotomy i j with q | q | q
      · exact hno ⟨i, j, hi, hj, q, hR, h⟩
      · subst q; omega
      · exact hno ⟨j, i, hj, hi, q, (hy j i).trans hR, by omega⟩
  have h1 := hmin (k - 1) ⟨fun i => if c i = b then a else if c i = k - 1 then b else c i, fun i hi _ => by
      have := c1 i hi
      show (if c i = b then a else if c i = k - 1 then b else c i) < k - 1
      by_cases e1 : c i = b
      · rw [if_pos e1]; omega
      · rw [if_neg e1]
        by_cases e2 : c i = k - 1
        · rw [if_pos e2]; omega
        · rw [if_neg e2]; omega, fun i j hi hj _ _ e => by
      have e9 : (if c i = b then a else if c i = k - 1 then b else c i) = (if c j = b then a else if c j = k - 1 then b else c j) := e
      have hi1 := c1 i hi
      have hj1 := c1 j hj
      by_cases q : c i = c j
      · exact c2 i j hi hj q
      · refine no i j hi hj ?_
        by_cases e1 : c i = b
        · rw [if_pos e1] at e9
          by_cases f1 : c j = b
          · omega
          · rw [if_neg f1] at e9
            by_cases f2 : c j = k - 1
            · rw [if_pos f2] at e9; omega
            · rw [if_neg f2] at e9; omega
        · rw [if_neg e1] at e9
          by_cases e2 : c i = k - 1
          · rw [if_pos e2] at e9
            by_cases f1 : c j = b
            · rw [if_pos f1] at e9; omega
            · rw [if_neg f1] at e9
              by_cases f2 : c j = k - 1
              · omega
              · rw [if_neg f2] at e9; omega
          · rw [if_neg e2] at e9
            by_cases f1 : c j = b
            · rw [if_pos f1] at e9; omega
            · rw [if_neg f1] at e9
              by_cases f2 : c j = k - 1
              · rw [if_pos f2] at e9; omega
              · rw [if_neg f2] at e9; omega⟩
  omega
theorem chi_edges {k : Nat} (hy : ∀ i j, R i j = R j i) (hr : ∀ i, R i i = false) (hk : Chi R (fun _ => true) k) : (k - 1) * k / 2 ≤ cntN 64 (fun m => decide (m / 8 < m % 8) && R (m / 8) (m % 8)) := by
  have h8 := hk.le8 hr
  obtain ⟨⟨c, c1, c2⟩, hmin⟩ := hk
  have d1 : ∀ i, i < 8 → c i < k := fun i hi => c1 i hi rfl
  have d2 : ∀ i j, i < 8 → j < 8 → c i = c j → R i j = false := fun i j hi hj e => c2 i j hi hj rfl rfl e
  rw [← tri_cnt h8]
  refine cntN_surj (g := fun m => if c (m / 8) < c (m % 8) then 8 * c (m / 8) + c (m % 8) else 8 * c (m % 8) + c (m / 8)) (fun m hm hh => ?_)
  have hh2 : (decide (m / 8 < m % 8) && decide (m % 8 < k)) = true := hh
  rw [Bool.and_eq_true] at hh2
  have h1 := of_decide_eq_true hh2.1
  have h2 := of_decide_eq_true hh2.2
  obtain ⟨i, j, hi, hj, hij, hR, hc⟩ := chi_pair hy hmin d1 d2 h1 h2
  refine ⟨8 * i + j, by omega, ?_, ?_⟩
  · show (decide ((8 * i + j) / 8 < (8 * i + j) % 8) && R ((8 * i + j) / 8) ((8 * i + j) % 8)) = true
    rw [(dm8 hj).1, (dm8 hj).2, decide_eq_true hij, hR]; rfl
  · show (if c ((8 * i + j) / 8) < c ((8 * i + j) % 8) then 8 * c ((8 * i + j) / 8) + c ((8 * i + j) % 8) else 8 * c ((8 * i + j) % 8) + c ((8 * i + j) / 8)) = m
    rw [(dm8 hj).1, (dm8 hj).2]
    rcases hc with ⟨e1, e2⟩ | ⟨e1, e2⟩
    · rw [e1, e2, if_pos h1]; omega
    · rw [e1, e2, if_neg (by omega)]; omega
theorem chi_pos {k : Nat} (hk : Chi R (fun _ => true) k) : 0 < k := by
  obtain ⟨⟨c, c1, -⟩, -⟩ := hk
  have := c1 0 (by decide) rfl
  omega
theorem chi_one {k : Nat} (hr : ∀ i, R i i = false) (hy : ∀ i j, R i j = R j i) (hk : Chi R (fun _ => true) k) : (k = 1) ↔ cntN 64 (fun m => decide (m / 8 < m % 8) && R (m / 8) (m % 8)) = 0 := by
  constructor
  · intro e
    obtain ⟨⟨c, c1, c2⟩, -⟩ := hk
    refine cntN_zero (fun m hm => ?_)
    have h0 := c1 (m / 8) (by omega) rfl
    have h1 := c1 (m % 8) (by omega) rfl
    show (decide (m / 8 < m % 8) && R (m / 8) (m % 8)) = false
    rw [c2 (m / 8) (m % 8) (by omega) (by omega) rfl rfl (by omega), Bool.and_false]
  · intro h
    have hp := chi_pos hk
    have no : ∀ i j, i < 8 → j < 8 → i < j → R i j = false := by
      intro i j hi hj hij
      cases hR : R i j with
      | false => rfl
      | true =>
        have := cntN_lt (f := fun m => decide (m / 8 < m % 8) && R (m / 8) (m % 8)) (l := 8 * i + j) (n := 64) (by omega) (by
          show (decide ((8 * i + j) / 8 < (8 * i + j) % 8) && R ((8 * i + j) / 8) ((8 * i + j) % 8)) = true
          rw [(dm8 hj).1, (dm8 hj).2, decide_eq_true hij, hR]; rfl)
        omega
    have := hk.2 1 ⟨fun _ => 0, fun _ _ _ => Nat.one_pos, fun i j hi hj _ _ _ => by
      rcases Nat.lt_trichotomy i j with q | q | q
      · exact no i j hi hj q
      · subst q; exact hr i
      · rw [hy]; exact no j i hj hi q⟩
    omega
end SY
/-! labels put one by one -/
theorem bit_orN {f : Nat → Nat} {l : Nat} : ∀ {n : Nat}, bit (orN n f) l = true ↔ ∃ a, a < n ∧ bit (f a) l = true
  | 0 => ⟨fun h => (by rw [show orN 0 f = 0 from rfl, bit_0] at h; cases h), fun h => (by obtain ⟨a, h, _⟩ := h; omega)⟩
  | n + 1 => by
    rw [orN_s, bit_or, Bool.or_eq_true, bit_orN (n := n)]
    constructor
    · rintro (⟨a, h1, h2⟩ | h)
      · exact ⟨a, by omega, h2⟩
      · exact ⟨n, by omega, h⟩
    · rintro ⟨a, h1, h2⟩
      rcases Nat.lt_or_ge a n with q | q
      · exact Or.inl ⟨a, q, h2⟩
      · rw [show a = n by omega] at h2; exact Or.inr h2
section LB
variable {σ : Sg} {p : Nat}
theorem lb_at {i : Nat} (hi : i < 8) : lbS σ p 8 (4 * i + 3) = low (barr (lbS σ p i) p i i) + 1 := lbS_at hi
theorem lb_bar (hp : p < 4) {i l : Nat} (hi : i < 8) : bit (barr (lbS σ p i) p i i) l = true ↔ ∃ a, a < i ∧ ap σ p a i = true ∧ lbS σ p 8 (4 * a + 3) = l + 1 := by
  unfold barr
  rw [bit_orN]
  have e : ∀ a, a < i → lbS σ p i (4 * a + 3) = lbS σ p 8 (4 * a + 3) := fun a ha => by rw [lbS_at ha, lb_at (by omega)]
  constructor
  · rintro ⟨a, h1, h2⟩
    rw [lbS_ap (by omega) hp] at h2
    cases hA : ap σ p a i with
    | false => rw [hA] at h2; rw [show (bif false then 2 ^ (lbS σ p i (4 * a + 3) - 1) else 0) = 0 from rfl, bit_0] at h2; cases h2
    | true =>
      rw [hA] at h2
      rw [show (bif true then 2 ^ (lbS σ p i (4 * a + 3) - 1) else 0) = 2 ^ (lbS σ p i (4 * a + 3) - 1) from rfl, bit_one] at h2
      have h3 := of_decide_eq_true h2
      refine ⟨a, h1, hA, ?_⟩
      rw [e a h1] at h3
      have := lb_at (σ := σ) (p := p) (i := a) (by omega)
      omega
  · rintro ⟨a, h1, h2, h3⟩
    refine ⟨a, h1, ?_⟩
    rw [lbS_ap (by omega) hp, h2, show (bif true then 2 ^ (lbS σ p i (4 * a + 3) - 1) else 0) = 2 ^ (lbS σ p i (4 * a + 3) - 1) from rfl, bit_one, e a h1, h3]
    exact decide_eq_true rfl
/-- unlike for pairs told apart -/
theorem lb_ok (hp : p < 4) {a i : Nat} (ha : a < i) (hi : i < 8) (h : lbS σ p 8 (4 * a + 3) = lbS σ p 8 (4 * i + 3)) : ap σ p a i = false := by
  cases hA : ap σ p a i with
  | false => rfl
  | true =>
    have h1 := low_free (b := barr (lbS σ p i) p i i) (barr_lt2 hi)
    rw [(lb_bar hp hi).mpr ⟨a, ha, hA, h.trans (lb_at hi)⟩] at h1
    cases h1
theorem lb_ok2 (hp : p < 4) {a i : Nat} (ha : a < 8) (hi : i < 8) (h : lbS σ p 8 (4 * a + 3) = lbS σ p 8 (4 * i + 3)) : ap σ p a i = false := by
  rcases Nat.lt_trichotomy a i with q | q | q
  · exact lb_ok hp q hi h
  · subst q; exact ap_self σ p a
  · rw [ap_sym]; exact lb_ok hp q ha h.symm
/-- as low as can be -/
theorem lb_low (hp : p < 4) {i l : Nat} (hi : i < 8) (hl : l + 1 < lbS σ p 8 (4 * i + 3)) : ∃ a, a < i ∧ ap σ p a i = true ∧ lbS σ p 8 (4 * a + 3) = l + 1 := by
  rw [lb_at hi] at hl
  exact (lb_bar hp hi).mp (low_below (by omega))
theorem lb_0 : lbS σ p 8 (4 * 0 + 3) = 1 := by
  rw [lb_at (by decide), show barr (lbS σ p 0) p 0 0 = 0 from rfl]
  decide
theorem lb_le {i : Nat} (hi : i < 8) : 1 ≤ lbS σ p 8 (4 * i + 3) ∧ lbS σ p 8 (4 * i + 3) ≤ 8 := by
  have h1 := lb_at (σ := σ) (p := p) hi
  have h2 := lbS_le (σ := σ) (p := p) (n := 8) (a := i) (Nat.le_refl 8) hi
  omega
theorem lb_labd : labd (lbS σ p 8) = 8 := cntN_all (fun k hk => by
  have := (lb_le (σ := σ) (p := p) hk).1
  show (!decide (lbS σ p 8 (4 * k + 3) = 0)) = true
  rw [decide_eq_false (by omega)]; rfl)
theorem lb_wrg (hp : p < 4) : wrg (lbS σ p 8) p = 0 := cntN_zero (fun k hk => by
  unfold wrF
  cases hl : decide (lab (lbS σ p 8) (k / 8) = lab (lbS σ p 8) (k % 8)) with
  | false => simp
  | true =>
    rw [lbS_ap (Nat.le_refl 8) hp, lb_ok2 hp (by omega) (by omega) (of_decide_eq_true hl)]
    simp)
theorem lm_bit {i : Nat} (hi : i < 8) : bit (lmask (lbS σ p 8)) (lbS σ p 8 (4 * i + 3) - 1) = true := by
  unfold lmask
  rw [bit_orN]
  refine ⟨i, hi, ?_⟩
  have := (lb_le (σ := σ) (p := p) hi).1
  show bit (bif decide (lbS σ p 8 (4 * i + 3) = 0) then 0 else 2 ^ (lbS σ p 8 (4 * i + 3) - 1)) (lbS σ p 8 (4 * i + 3) - 1) = true
  rw [decide_eq_false (by omega), show (bif false then 0 else 2 ^ (lbS σ p 8 (4 * i + 3) - 1)) = 2 ^ (lbS σ p 8 (4 * i + 3) - 1) from rfl, bit_one]
  exact decide_eq_true rfl
/-- no fewer than the fewest -/
theorem lb_few (hp : p < 4) {k : Nat} (hk : Chi (ap σ p) (fun _ => true) k) : k ≤ popc (lmask (lbS σ p 8)) := by
  refine hk.2 _ ⟨fun i => cntN (lbS σ p 8 (4 * i + 3) - 1) (fun l => bit (lmask (lbS σ p 8)) l), fun i hi _ => ?_, fun i j hi hj _ _ e => ?_⟩
  · have := lb_le (σ := σ) (p := p) hi
    exact cntN_lt (by omega) (lm_bit hi)
  · have e9 : cntN (lbS σ p 8 (4 * i + 3) - 1) (fun l => bit (lmask (lbS σ p 8)) l) = cntN (lbS σ p 8 (4 * j + 3) - 1) (fun l => bit (lmask (lbS σ p 8)) l) := e
    have h1 := lb_le (σ := σ) (p := p) hi
    have h2 := lb_le (σ := σ) (p := p) hj
    rcases Nat.lt_trichotomy (lbS σ p 8 (4 * i + 3) - 1) (lbS σ p 8 (4 * j + 3) - 1) with q | q | q
    · have := cntN_lt (f := fun l => bit (lmask (lbS σ p 8)) l) q (lm_bit hi); omega
    · exact lb_ok2 hp hi hj (by omega)
    · have := cntN_lt (f := fun l => bit (lmask (lbS σ p 8)) l) q (lm_bit hj); omega
end LB
/-! the numbers of labels -/
theorem popc_s {a l : Nat} (ha : a < 256) (hl : l < 8) : popc a ≤ popc (a ||| 2 ^ l) ∧ popc (a ||| 2 ^ l) ≤ popc a + 1 ∧ 0 < popc (a ||| 2 ^ l) := by
  have k : ∀ a, a < 256 → ∀ l, l < 8 → popc a ≤ popc (a ||| 2 ^ l) ∧ popc (a ||| 2 ^ l) ≤ popc a + 1 ∧ 0 < popc (a ||| 2 ^ l) := by decide +kernel
  exact k a ha l hl
theorem lm_n {σ : Sg} (hW : Wf σ) : ∀ n, n ≤ 8 → popc (orN n (fun p => bif decide (lab σ p = 0) then 0 else 2 ^ (lab σ p - 1))) ≤ cntN n (fun p => !decide (lab σ p = 0)) ∧ (0 < cntN n (fun p => !decide (lab σ p = 0)) → 0 < popc (orN n (fun p => bif decide (lab σ p = 0) then 0 else 2 ^ (lab σ p - 1))))
  | 0, _ => ⟨(by show popc 0 ≤ 0; decide), fun h => absurd (show 0 < 0 from h) (Nat.lt_irrefl 0)⟩
  | n + 1, hn => by
    have ih := lm_n hW n (by omega)
    have hl : lab σ n ≤ 8 := (hW.1 n (by omega)).2.2.2
    by_cases h0 : lab σ n = 0
    · rw [cntN_f (f := fun p => !decide (lab σ p = 0)) (n := n) (by show (!decide (lab σ n = 0)) = false; rw [decide_eq_true h0]; rfl), orN_s, decide_eq_true h0, show (bif true then 0 else 2 ^ (lab σ n - 1)) = 0 from rfl, Nat.or_zero]
      exact ih
    · rw [cntN_t (f := fun p => !decide (lab σ p = 0)) (n := n) (by show (!decide (lab σ n = 0)) = true; rw [decide_eq_false h0]; rfl), orN_s, decide_eq_false h0, show (bif false then 0 else 2 ^ (lab σ n - 1)) = 2 ^ (lab σ n - 1) from rfl]
      have hlt : orN n (fun p => bif decide (lab σ p = 0) then 0 else 2 ^ (lab σ p - 1)) < 2 ^ 8 := orN_lt (fun p hp => by
        have hp2 : lab σ p ≤ 8 := (hW.1 p (by omega)).2.2.2
        cases hd : decide (lab σ p = 0) with
        | true => exact Nat.two_pow_pos 8
        | false =>
          have := of_decide_eq_false hd
          exact Nat.pow_lt_pow_right (by decide) (by omega))
      have hs := popc_s (a := orN n (fun p => bif decide (lab σ p = 0) then 0 else 2 ^ (lab σ p - 1))) (l := lab σ n - 1) hlt (by omega)
      exact ⟨by omega, fun _ => hs.2.2⟩
theorem lm_le {σ : Sg} (hW : Wf σ) : popc (lmask σ) ≤ labd σ ∧ (0 < popc (lmask σ) ↔ 0 < labd σ) := by
  have h := lm_n hW 8 (Nat.le_refl 8)
  exact ⟨h.1, fun q => Nat.lt_of_lt_of_le q h.1, h.2⟩
/-! the nearest colour is the nearest -/
theorem nst_min (σ : Sg) (p i j : Nat) : ∀ n k, k < n → okk σ p j k = true → (nst σ p i j n).2 ≤ chg σ i k
  | n + 1, k, hk, ho => by
    have ih := nst_min σ p i j n k
    unfold nst
    by_cases h : chg σ i n < (nst σ p i j n).2 ∧ okk σ p j n = true
    · rw [if_pos h]
      show chg σ i n ≤ chg σ i k
      rcases Nat.lt_or_ge k n with q | q
      · have := ih q ho; omega
      · rw [show k = n by omega]; exact Nat.le_refl _
    · rw [if_neg h]
      rcases Nat.lt_or_ge k n with q | q
      · exact ih q ho
      · have e : k = n := by omega
        subst e
        exact Nat.le_of_not_lt (fun q => h ⟨q, ho⟩)
theorem nst_congr {σ τ : Sg} {p i j : Nat} (h1 : ∀ k, chg τ i k = chg σ i k) (h2 : ∀ k, okk τ p j k = okk σ p j k) : ∀ n, nst τ p i j n = nst σ p i j n
  | 0 => rfl
  | n + 1 => by unfold nst; rw [nst_congr h1 h2 n, h1, h2]
/-! sums over the painters -/
def moF (σ : Sg) : Nat → Nat
  | 0 => 0
  | n + 1 => if moF σ n < 2 * pr σ n + 1 then 2 * pr σ n + 1 else moF σ n
theorem moF_b (σ : Sg) : ∀ n, moF σ n = 2 * (bestF σ n).2 - 1
  | 0 => rfl
  | n + 1 => by
    have ih := moF_b σ n
    unfold moF bestF
    by_cases h : (bestF σ n).2 < pr σ n + 1
    · rw [if_pos h, if_pos (by omega)]; show 2 * pr σ n + 1 = 2 * (pr σ n + 1) - 1; omega
    · rw [if_neg h, if_neg (by omega)]; exact ih
theorem bestF_pr (σ : Sg) : ∀ n, (bestF σ (n + 1)).2 = pr σ (bestF σ (n + 1)).1 + 1
  | 0 => by
    show (if (bestF σ 0).2 < pr σ 0 + 1 then (0, pr σ 0 + 1) else bestF σ 0).2 = pr σ (if (bestF σ 0).2 < pr σ 0 + 1 then (0, pr σ 0 + 1) else bestF σ 0).1 + 1
    rw [if_pos (show (bestF σ 0).2 < pr σ 0 + 1 from Nat.succ_pos _)]
  | n + 1 => by
    have ih := bestF_pr σ n
    show (if (bestF σ (n + 1)).2 < pr σ (n + 1) + 1 then (n + 1, pr σ (n + 1) + 1) else bestF σ (n + 1)).2 = pr σ (if (bestF σ (n + 1)).2 < pr σ (n + 1) + 1 then (n + 1, pr σ (n + 1) + 1) else bestF σ (n + 1)).1 + 1
    by_cases h : (bestF σ (n + 1)).2 < pr σ (n + 1) + 1
    · rw [if_pos h]
    · rw [if_neg h]; exact ih
theorem mo_best (σ : Sg) : moF σ 4 = 2 * pr σ (bst σ) + 1 := by
  have h1 := moF_b σ 4
  have h2 : (bestF σ 4).2 = pr σ (bestF σ 4).1 + 1 := bestF_pr σ 3
  show moF σ 4 = 2 * pr σ (bestF σ 4).1 + 1
  omega
theorem bst_lt (σ : Sg) : bst σ < 4 := by
  have e : ∀ n, (bestF σ (n + 1)).1 ≤ n := by
    intro n
    induction n with
    | zero =>
      show (if (bestF σ 0).2 < pr σ 0 + 1 then (0, pr σ 0 + 1) else bestF σ 0).1 ≤ 0
      rw [if_pos (show (bestF σ 0).2 < pr σ 0 + 1 from Nat.succ_pos _)]
      exact Nat.le_refl 0
    | succ n ih =>
      show (if (bestF σ (n + 1)).2 < pr σ (n + 1) + 1 then (n + 1, pr σ (n + 1) + 1) else bestF σ (n + 1)).1 ≤ n + 1
      by_cases h : (bestF σ (n + 1)).2 < pr σ (n + 1) + 1
      · rw [if_pos h]; exact Nat.le_refl _
      · rw [if_neg h]; omega
  have h : (bestF σ 4).1 ≤ 3 := e 3
  show (bestF σ 4).1 < 4
  omega
theorem share_cmp {n : Nat} (h : n ≤ 256) : Op.cmpValue (FP.dcmp (FP.ddiv (FP.i2d (nI n)) (4637581716284768256)) (FP.ddiv (FP.i2d (nI n)) (4637581716284768256))) .l = nI 0 := by
  have k : ∀ n, n < 257 → Op.cmpValue (FP.dcmp (FP.ddiv (FP.i2d (nI n)) (4637581716284768256)) (FP.ddiv (FP.i2d (nI n)) (4637581716284768256))) .l = nI 0 := by decide +kernel
  exact k n (by omega)
/-! with the own eyes alone, with those of a lender -/
theorem tC_own {σ : Sg} {p r g b r2 g2 b2 : Nat} : tC σ p (p + 1) r g b r2 g2 b2 = tC σ p 0 r g b r2 g2 b2 := by
  unfold tC
  rw [Nat.add_sub_cancel]
  cases decide (σ (33 + 3 * p) < dist (σ (32 + 3 * p)) r g b r2 g2 b2) <;> simp
theorem prW_own {σ : Sg} {p : Nat} : prW σ p (p + 1) = prW σ p 0 := cntN_congr (fun k _ => by
  unfold prF apW tl
  rw [tC_own])
theorem prW_le {σ : Sg} {p ln : Nat} : prW σ p 0 ≤ prW σ p ln := cntN_mono (fun k _ h => by
  unfold prF apW tl tC at h ⊢
  rw [Bool.and_eq_true] at h ⊢
  refine ⟨h.1, ?_⟩
  have h2 := h.2
  rw [decide_eq_true (rfl : 0 = 0)] at h2
  rw [Bool.or_eq_true] at h2 ⊢
  rcases h2 with h2 | h2
  · exact Or.inl h2
  · cases h2)
/-- the lender of a painter who looks with a lender given plays no part -/
theorem prW_upl {σ : Sg} {p q v ln : Nat} (hp : p < 4) (hq : q < 4) (hl : ln ≤ 4) : prW (upS σ (34 + 3 * q) v) p ln = prW σ p ln := cntN_congr (fun k hk => by
  unfold prF apW tl tC
  rw [upS_ne (j := 33 + 3 * p) (by omega), upS_ne (j := 32 + 3 * p) (by omega), upS_ne (j := 32 + 3 * (ln - 1)) (by omega), upS_ne (j := 4 * (k / 8)) (by omega), upS_ne (j := 4 * (k / 8) + 1) (by omega), upS_ne (j := 4 * (k / 8) + 2) (by omega), upS_ne (j := 4 * (k % 8)) (by omega), upS_ne (j := 4 * (k % 8) + 1) (by omega), upS_ne (j := 4 * (k % 8) + 2) (by omega)])
theorem pr_borrow {σ : Sg} {p q : Nat} (hp : p < 4) (hq : q < 4) : pr (upS σ (34 + 3 * p) (brw p q)) p = prW σ p (q + 1) := by
  unfold pr
  rw [upS_eq, prW_upl hp hp (by unfold brw; by_cases e : p = q <;> simp [e]; omega)]
  unfold brw
  by_cases e : p = q
  · rw [if_pos e, ← e, prW_own]
  · rw [if_neg e]
