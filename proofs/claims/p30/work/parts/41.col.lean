/-! the fewest labels of a set of pots -/
theorem bit_tb (b l : Nat) : bit b l = b.testBit l := by unfold bit; rw [Nat.testBit_eq_decide_div_mod_eq]
/-- the set P can be labelled with k labels -/
def Cob (R : Nat → Nat → Bool) (P : Nat → Bool) (k : Nat) : Prop := ∃ c : Nat → Nat, (∀ i, i < 8 → P i = true → c i < k) ∧ ∀ i j, i < 8 → j < 8 → P i = true → P j = true → c i = c j → R i j = false
def Pce (R : Nat → Nat → Bool) (T : Nat → Bool) : Prop := ∀ i j, i < 8 → j < 8 → T i = true → T j = true → R i j = false
def Chi (R : Nat → Nat → Bool) (P : Nat → Bool) (k : Nat) : Prop := Cob R P k ∧ ∀ m, Cob R P m → k ≤ m
section CO
variable {R : Nat → Nat → Bool} {P Q T : Nat → Bool} {k k2 v n : Nat}
theorem Cob.mono (h : Cob R P k) (hk : k ≤ k2) (hP : ∀ i, i < 8 → Q i = true → P i = true) : Cob R Q k2 := by
  obtain ⟨c, c1, c2⟩ := h
  exact ⟨c, fun i hi h => Nat.lt_of_lt_of_le (c1 i hi (hP i hi h)) hk, fun i j hi hj h1 h2 e => c2 i j hi hj (hP i hi h1) (hP j hj h2) e⟩
theorem Cob.full (h : ∀ i, R i i = false) : Cob R P 8 := ⟨fun i => i, fun i hi _ => hi, fun i j _ _ _ _ e => by have e2 : i = j := e; subst e2; exact h i⟩
theorem Chi.ex (h : ∀ i, R i i = false) (P : Nat → Bool) : ∃ k, Chi R P k := by
  obtain ⟨k, h1, h2⟩ := pk_least (fun k => Cob R P k) ⟨8, Cob.full h⟩
  exact ⟨k, h1, fun m hm => Nat.le_of_not_lt fun q => h2 m q hm⟩
theorem Chi.uniq (h : Chi R P k) (h2 : Chi R P k2) : k = k2 := Nat.le_antisymm (h.2 _ h2.1) (h2.2 _ h.1)
theorem Chi.congr (h : Chi R P k) (e : ∀ i, i < 8 → P i = Q i) : Chi R Q k := ⟨h.1.mono (Nat.le_refl k) (fun i hi q => (e i hi).trans q), fun m hm => h.2 m (hm.mono (Nat.le_refl m) (fun i hi q => (e i hi).symm.trans q))⟩
theorem Chi.le8 (h : Chi R P k) (hr : ∀ i, R i i = false) : k ≤ 8 := h.2 8 (Cob.full hr)
theorem Cob.ach (hT : Pce R T) (h : Cob R (fun i => P i && !T i) k) : Cob R P (k + 1) := by
  obtain ⟨c, c1, c2⟩ := h
  have e : ∀ i, T i = false → P i = true → (P i && !T i) = true := fun i a b => by rw [a, b]; rfl
  refine ⟨fun i => if T i = true then k else c i, fun i hi hp => ?_, fun i j hi hj hp hq eq => ?_⟩
  · show (if T i = true then k else c i) < k + 1
    by_cases q : T i = true
    · rw [if_pos q]; exact Nat.lt_succ_self k
    · rw [if_neg q]; exact Nat.lt_succ_of_lt (c1 i hi (e i (Bool.not_eq_true _ ▸ q) hp))
  · have eq2 : (if T i = true then k else c i) = (if T j = true then k else c j) := eq
    by_cases q : T i = true
    · by_cases r : T j = true
      · exact hT i j hi hj q r
      · rw [if_pos q, if_neg r] at eq2
        have := c1 j hj (e j (Bool.not_eq_true _ ▸ r) hq); omega
    · by_cases r : T j = true
      · rw [if_neg q, if_pos r] at eq2
        have := c1 i hi (e i (Bool.not_eq_true _ ▸ q) hp); omega
      · rw [if_neg q, if_neg r] at eq2
        exact c2 i j hi hj (e i (Bool.not_eq_true _ ▸ q) hp) (e j (Bool.not_eq_true _ ▸ r) hq) eq2
theorem Cob.opt (h : Cob R P k) (hv : v < 8) (hP : P v = true) : ∃ T : Nat → Bool, T v = true ∧ (∀ i, i < 8 → T i = true → P i = true) ∧ Pce R T ∧ 0 < k ∧ Cob R (fun i => P i && !T i) (k - 1) := by
  obtain ⟨c, c1, c2⟩ := h
  have hk := c1 v hv hP
  refine ⟨fun i => P i && decide (c i = c v), by show (P v && decide (c v = c v)) = true; rw [hP, decide_eq_true rfl]; rfl, fun i hi q => (Bool.and_eq_true _ _ ▸ q : P i = true ∧ decide (c i = c v) = true).1, fun i j hi hj p q => ?_, by omega, ?_⟩
  · have p2 : P i = true ∧ decide (c i = c v) = true := by rw [← Bool.and_eq_true]; exact p
    have q2 : P j = true ∧ decide (c j = c v) = true := by rw [← Bool.and_eq_true]; exact q
    exact c2 i j hi hj p2.1 q2.1 ((of_decide_eq_true p2.2).trans (of_decide_eq_true q2.2).symm)
  · have un : ∀ i, (P i && !(P i && decide (c i = c v))) = true → P i = true ∧ c i ≠ c v := fun i h => by
      cases hp : P i with
      | false => rw [hp] at h; cases (show false = true from h)
      | true =>
        rw [hp] at h
        refine ⟨rfl, fun e => ?_⟩
        rw [decide_eq_true e] at h; exact absurd h (by decide)
    refine ⟨fun i => if c i = k - 1 then c v else c i, fun i hi h => ?_, fun i j hi hj p q e => ?_⟩
    · obtain ⟨h1, h2⟩ := un i h
      have := c1 i hi h1
      show (if c i = k - 1 then c v else c i) < k - 1
      by_cases e : c i = k - 1
      · rw [if_pos e]; omega
      · rw [if_neg e]; omega
    · obtain ⟨p1, p2⟩ := un i p
      obtain ⟨q1, q2⟩ := un j q
      have e2 : (if c i = k - 1 then c v else c i) = (if c j = k - 1 then c v else c j) := e
      refine c2 i j hi hj p1 q1 ?_
      by_cases a : c i = k - 1
      · by_cases b : c j = k - 1
        · rw [a, b]
        · rw [if_pos a, if_neg b] at e2; exact absurd e2.symm q2
      · by_cases b : c j = k - 1
        · rw [if_neg a, if_pos b] at e2; exact absurd e2 p2
        · rw [if_neg a, if_neg b] at e2; exact e2
end CO
/-! sets as masks -/
def mkm (T : Nat → Bool) (n : Nat) : Nat := orN n (fun i => bif T i then 2 ^ i else 0)
theorem mkm_s (T : Nat → Bool) (n : Nat) : mkm T (n + 1) = mkm T n ||| (bif T n then 2 ^ n else 0) := orN_s n _
theorem mkm_lt (T : Nat → Bool) : ∀ n, mkm T n < 2 ^ n
  | 0 => Nat.zero_lt_one
  | n + 1 => by
    rw [mkm_s]
    refine Nat.or_lt_two_pow (Nat.lt_trans (mkm_lt T n) (Nat.pow_lt_pow_right (by decide) (by omega))) ?_
    cases T n
    · exact Nat.two_pow_pos _
    · exact Nat.pow_lt_pow_right (by decide) (by omega)
theorem mkm_bit (T : Nat → Bool) : ∀ n i, i < n → bit (mkm T n) i = T i
  | 0, i, h => absurd h (Nat.not_lt_zero i)
  | n + 1, i, h => by
    rw [mkm_s, bit_tb, Nat.testBit_or]
    by_cases e : i = n
    · subst e
      rw [Nat.testBit_lt_two_pow (mkm_lt T i)]
      cases T i
      · rw [cond, Nat.zero_testBit]; rfl
      · rw [cond, Nat.testBit_two_pow_self]; rfl
    · rw [← bit_tb, mkm_bit T n i (by omega)]
      cases T n
      · rw [cond, Nat.zero_testBit, Bool.or_false]
      · rw [cond, Nat.testBit_two_pow_of_ne (by omega), Bool.or_false]
theorem mkm_hi (T : Nat → Bool) {n i : Nat} (h : n ≤ i) : bit (mkm T n) i = false := bit_hi (Nat.lt_of_lt_of_le (mkm_lt T n) (Nat.pow_le_pow_right (by decide) h))
theorem bit_ext {a b : Nat} (ha : a < 256) (hb : b < 256) (h : ∀ i, i < 8 → bit a i = bit b i) : a = b := by
  apply Nat.eq_of_testBit_eq
  intro i
  rw [← bit_tb, ← bit_tb]
  rcases Nat.lt_or_ge i 8 with q | q
  · exact h i q
  · have e : (256 : Nat) ≤ 2 ^ i := Nat.pow_le_pow_right (n := 2) (by decide) q
    rw [bit_hi (Nat.lt_of_lt_of_le ha e), bit_hi (Nat.lt_of_lt_of_le hb e)]
theorem bit_one {v i : Nat} : bit (2 ^ v) i = decide (v = i) := by rw [bit_tb, Nat.testBit_two_pow]
theorem bit_or (a b i : Nat) : bit (a ||| b) i = (bit a i || bit b i) := by rw [bit_tb, bit_tb, bit_tb, Nat.testBit_or]
theorem bit_an (a b i : Nat) : bit (a &&& b) i = (bit a i && bit b i) := by rw [bit_tb, bit_tb, bit_tb, Nat.testBit_and]
theorem bit_xo (a b i : Nat) : bit (a ^^^ b) i = (bit a i ^^ bit b i) := by rw [bit_tb, bit_tb, bit_tb, Nat.testBit_xor]
theorem bit_0 (i : Nat) : bit 0 i = false := by rw [bit_tb, Nat.zero_testBit]
/-- no two pots of the set s are told apart -/
def alB : Nat → (Nat → Bool) → Bool
  | 0, _ => true
  | n + 1, f => alB n f && f n
theorem alB_iff {f : Nat → Bool} : ∀ n, alB n f = true ↔ ∀ k, k < n → f k = true
  | 0 => ⟨fun _ k h => absurd h (Nat.not_lt_zero k), fun _ => rfl⟩
  | n + 1 => by
    show (alB n f && f n) = true ↔ _
    rw [Bool.and_eq_true, alB_iff n]
    exact ⟨fun h k hk => by
      by_cases e : k = n
      · subst e; exact h.2
      · exact h.1 k (by omega), fun h => ⟨fun k hk => h k (by omega), h n (by omega)⟩⟩
def pcF (R : Nat → Nat → Bool) (s : Nat) : Nat → Bool := fun k => !((bit s (k / 8) && bit s (k % 8)) && R (k / 8) (k % 8))
def pcB (R : Nat → Nat → Bool) (s : Nat) : Bool := alB 64 (pcF R s)
section CM
variable {R : Nat → Nat → Bool} {s v lw t n k : Nat}
theorem pcB_iff : pcB R s = true ↔ Pce R (bit s) := by
  unfold pcB
  rw [alB_iff]
  constructor
  · intro h i j hi hj p q
    have h2 := h (8 * i + j) (by omega)
    unfold pcF at h2
    rw [show (8 * i + j) / 8 = i by omega, show (8 * i + j) % 8 = j by omega, p, q] at h2
    cases e : R i j with
    | false => rfl
    | true => rw [e] at h2; exact absurd h2 (by decide)
  · intro h k hk
    unfold pcF
    cases p : bit s (k / 8) with
    | false => rfl
    | true =>
      cases q : bit s (k % 8) with
      | false => rfl
      | true => rw [h _ _ (by omega) (by omega) p q]; rfl
theorem sub_bit (h : t &&& lw = t) (i : Nat) (hb : bit t i = true) : bit lw i = true := by
  rw [← h, bit_an, Bool.and_eq_true] at hb; exact hb.2
theorem sub_of (h : ∀ i, i < 8 → bit t i = true → bit lw i = true) (ht : t < 256) (hl : lw < 256) : t &&& lw = t := by
  refine bit_ext (Nat.lt_of_le_of_lt Nat.and_le_left ht) ht fun i hi => ?_
  rw [bit_an]
  cases q : bit t i with
  | false => rfl
  | true => rw [h i hi q]; rfl
theorem sub_le (h : t &&& lw = t) : t ≤ lw := by rw [← h]; exact Nat.and_le_right
/-- the class's sets: the highest pot v, and those lower -/
theorem dp_ach (hs : t &&& lw = t) (hl : lw < 2 ^ v) (hp : Pce R (bit (2 ^ v ||| t))) (hc : Cob R (bit (lw ^^^ t)) n) : Cob R (bit (2 ^ v ||| lw)) (n + 1) := by
  refine Cob.ach hp (hc.mono (Nat.le_refl n) fun i hi h => ?_)
  have h2 : (bit (2 ^ v ||| lw) i && !bit (2 ^ v ||| t) i) = true := h
  rw [bit_or, bit_or] at h2
  rw [bit_xo]
  cases a : bit (2 ^ v) i <;> cases b : bit lw i <;> cases c : bit t i <;> rw [a, b, c] at h2 <;> first | rfl | exact absurd h2 (by decide)
theorem dp_opt (hv : v < 8) (hl : lw < 2 ^ v) (hc : Cob R (bit (2 ^ v ||| lw)) k) : ∃ t, t &&& lw = t ∧ Pce R (bit (2 ^ v ||| t)) ∧ 0 < k ∧ Cob R (bit (lw ^^^ t)) (k - 1) := by
  have h8 : 2 ^ v ≤ 128 := Nat.pow_le_pow_right (n := 2) (by decide) (show v ≤ 7 by omega)
  obtain ⟨T, t1, t2, t3, t4, t5⟩ := hc.opt hv (by rw [bit_or, bit_one, decide_eq_true rfl]; rfl)
  have hm : ∀ i, i < 8 → bit (mkm (fun i => T i && !decide (v = i)) 8) i = (T i && !decide (v = i)) := fun i hi => mkm_bit _ 8 i hi
  have hsub : ∀ i, i < 8 → bit (mkm (fun i => T i && !decide (v = i)) 8) i = true → bit lw i = true := fun i hi h => by
    rw [hm i hi, Bool.and_eq_true] at h
    have h2 := t2 i hi h.1
    rw [bit_or, bit_one] at h2
    cases q : decide (v = i) with
    | true => rw [q] at h; exact absurd h.2 (by decide)
    | false => rw [q] at h2; exact h2
  have hT : ∀ i, i < 8 → bit (2 ^ v ||| mkm (fun i => T i && !decide (v = i)) 8) i = T i := fun i hi => by
    rw [bit_or, bit_one, hm i hi]
    by_cases e : v = i
    · subst e; rw [t1, decide_eq_true rfl]; rfl
    · rw [decide_eq_false e]; cases T i <;> rfl
  refine ⟨mkm (fun i => T i && !decide (v = i)) 8, sub_of hsub (mkm_lt _ 8) (by omega), fun i j hi hj p q => t3 i j hi hj ((hT i hi).symm.trans p) ((hT j hj).symm.trans q), t4, t5.mono (Nat.le_refl _) fun i hi h => ?_⟩
  show (bit (2 ^ v ||| lw) i && !T i) = true
  rw [bit_xo, hm i hi] at h
  rw [bit_or, bit_one]
  by_cases e : v = i
  · subst e
    rw [bit_hi hl, t1, decide_eq_true rfl] at h; exact absurd h (by decide)
  · rw [decide_eq_false e] at h ⊢
    have hs2 := hsub i hi
    rw [hm i hi, decide_eq_false e] at hs2
    cases a : bit lw i <;> cases b : T i <;> rw [a, b] at h <;> rw [a, b] at hs2 <;> first | rfl | exact absurd h (by decide) | exact absurd (hs2 rfl) (by decide)
/-- what a walk over the sets taken out has found is the fewest -/
theorem dp_is {nd : Nat → Nat} (hnd : ∀ m, Chi R (bit m) (nd m)) (hv : v < 8) (hl : lw < 2 ^ v) {acc : Nat} (h1 : Cob R (bit (2 ^ v ||| lw)) acc) (h2 : ∀ t, t ≤ lw → t &&& lw = t → Pce R (bit (2 ^ v ||| t)) → acc ≤ nd (lw ^^^ t) + 1) : acc = nd (2 ^ v ||| lw) := by
  refine Chi.uniq ⟨h1, fun m hm => ?_⟩ (hnd _)
  obtain ⟨t, t1, t2, t3, t4⟩ := dp_opt hv hl hm
  have := h2 t (sub_le t1) t1 t2
  have := (hnd (lw ^^^ t)).2 _ t4
  omega
theorem pcB_0 : pcB R 0 = true := pcB_iff.mpr fun i j _ _ p _ => by rw [bit_0] at p; cases p
theorem pcB_s (hy : ∀ i j, R i j = R j i) (hr : ∀ i, R i i = false) (hv : v < 8) (hl : lw < 2 ^ v) : pcB R (2 ^ v ||| lw) = (pcB R lw && decide (mkm (R v) 8 &&& lw = 0)) := by
  have h8 : 2 ^ v ≤ 128 := Nat.pow_le_pow_right (n := 2) (by decide) (show v ≤ 7 by omega)
  have e : pcB R (2 ^ v ||| lw) = true ↔ (pcB R lw = true ∧ mkm (R v) 8 &&& lw = 0) := by
    rw [pcB_iff, pcB_iff]
    constructor
    · intro h
      refine ⟨fun i j hi hj p q => h i j hi hj (by rw [bit_or, p, Bool.or_true]) (by rw [bit_or, q, Bool.or_true]), ?_⟩
      refine bit_ext (Nat.lt_of_le_of_lt Nat.and_le_right (by omega)) (by decide) fun i hi => ?_
      rw [bit_an, bit_0, mkm_bit _ 8 i hi]
      cases q : bit lw i with
      | false => exact Bool.and_false _
      | true => rw [h v i hv hi (by rw [bit_or, bit_one, decide_eq_true rfl]; rfl) (by rw [bit_or, q, Bool.or_true])]; rfl
    · intro ⟨h1, h2⟩ i j hi hj p q
      have h3 : ∀ i, i < 8 → bit lw i = true → R v i = false := fun i hi a => by
        have : bit (mkm (R v) 8 &&& lw) i = bit 0 i := congrArg (fun z => bit z i) h2
        rw [bit_an, bit_0, mkm_bit _ 8 i hi, a, Bool.and_true] at this
        exact this
      rw [bit_or, bit_one] at p q
      by_cases a : v = i
      · subst a
        by_cases b : v = j
        · subst b; exact hr v
        · rw [decide_eq_false b] at q; exact h3 j hj q
      · rw [decide_eq_false a] at p
        by_cases b : v = j
        · subst b; rw [hy]; exact h3 i hi p
        · rw [decide_eq_false b] at q; exact h1 i j hi hj p q
  cases a : pcB R (2 ^ v ||| lw) with
  | true => obtain ⟨e1, e2⟩ := e.mp a; rw [e1, decide_eq_true e2]; rfl
  | false =>
    cases b : pcB R lw with
    | false => rfl
    | true =>
      by_cases c : mkm (R v) 8 &&& lw = 0
      · rw [e.mpr ⟨b, c⟩] at a; cases a
      · rw [decide_eq_false c]; rfl
end CM
