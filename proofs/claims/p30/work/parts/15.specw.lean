/-! the nearest colour -/
def chg (σ : Sg) (i k : Nat) : Nat := dist 0 (σ (4 * i)) (σ (4 * i + 1)) (σ (4 * i + 2)) (k / 100) (k / 10 % 10) (k % 10)
def okk (σ : Sg) (p j k : Nat) : Bool := tl σ p (σ (34 + 3 * p)) (k / 100) (k / 10 % 10) (k % 10) j
/-- behind the colours below n: the nearest one and 1 more (0: none), and by how much (28: none) -/
def nst (σ : Sg) (p i j : Nat) : Nat → Nat × Nat
  | 0 => (0, 28)
  | k + 1 => if chg σ i k < (nst σ p i j k).2 ∧ okk σ p j k = true then (k + 1, chg σ i k) else nst σ p i j k
theorem nst_t {σ : Sg} {p i j k : Nat} {a : Nat × Nat} (ha : a = nst σ p i j k) (h1 : chg σ i k < a.2) (h2 : okk σ p j k = true) : (k + 1, chg σ i k) = nst σ p i j (k + 1) := by
  subst ha; unfold nst; rw [if_pos ⟨h1, h2⟩]
theorem nst_f1 {σ : Sg} {p i j k : Nat} {a : Nat × Nat} (ha : a = nst σ p i j k) (h1 : a.2 ≤ chg σ i k) : a = nst σ p i j (k + 1) := by
  subst ha; conv => rhs; unfold nst
  rw [if_neg (fun h => Nat.not_lt.mpr h1 h.1)]
theorem nst_f2 {σ : Sg} {p i j k : Nat} {a : Nat × Nat} (ha : a = nst σ p i j k) (h2 : okk σ p j k = false) : a = nst σ p i j (k + 1) := by
  subst ha; conv => rhs; unfold nst
  rw [if_neg (fun h => by rw [h2] at h; exact absurd h.2 (by decide))]
theorem nst_in (σ : Sg) (p i j : Nat) : ∀ n, ((nst σ p i j n).1 ≤ n ∧ (nst σ p i j n).2 ≤ 28) ∧ ((nst σ p i j n).1 = 0 → (nst σ p i j n).2 = 28) ∧ ∀ k, (nst σ p i j n).1 = k + 1 → (nst σ p i j n).2 = chg σ i k ∧ okk σ p j k = true ∧ (nst σ p i j n).2 < 28
  | 0 => ⟨⟨Nat.le_refl 0, Nat.le_refl 28⟩, fun _ => rfl, fun k h => absurd h (by show ¬ 0 = k + 1; omega)⟩
  | n + 1 => by
    have ih := nst_in σ p i j n
    unfold nst
    by_cases h : chg σ i n < (nst σ p i j n).2 ∧ okk σ p j n = true
    · rw [if_pos h]
      refine ⟨⟨Nat.le_refl _, ?_⟩, fun q => absurd q (by show ¬ n + 1 = 0; omega), fun k hk => ?_⟩
      · show chg σ i n ≤ 28
        have := ih.1.2; omega
      · have e : n = k := by have : n + 1 = k + 1 := hk; omega
        subst e
        refine ⟨rfl, h.2, ?_⟩
        show chg σ i n < 28
        have := ih.1.2; omega
    · rw [if_neg h]
      exact ⟨⟨Nat.le_succ_of_le ih.1.1, ih.1.2⟩, ih.2.1, ih.2.2⟩
theorem cod_dig {k : Nat} (h : k < 1000) : k = cod (k / 100) (k / 10 % 10) (k % 10) := by unfold cod; omega
def mrk (σ : Sg) (p c : Nat) : Nat × Nat := nst σ p (σ (45 + 2 * c)) (σ (46 + 2 * c)) 1000
/-- the answer of a search: none, or by how much -/
def lsR (a : Nat × Nat) : Int32 := match a.1 with | 0 => -1 | _ + 1 => nI a.2
def mrG (a : Nat × Nat) (σ : Sg) (c : Nat) : Sg := match a.1 with
  | 0 => upS σ 58 (σ 58 + 1)
  | k + 1 => match a.2 with
    | 0 => σ
    | _ + 1 => upS (upc σ (σ (45 + 2 * c)) (k / 100) (k / 10 % 10) (k % 10)) 57 (σ 57 + 1)
theorem mrS_0 {a : Nat × Nat} {σ : Sg} {c : Nat} (h : a.1 = 0) : mrG a σ c = upS σ 58 (σ 58 + 1) := by unfold mrG; rw [h]
theorem mrS_1 {a : Nat × Nat} {σ : Sg} {c k : Nat} (h : a.1 = k + 1) (h2 : a.2 = 0) : mrG a σ c = σ := by unfold mrG; rw [h, h2]
theorem mrS_2 {a : Nat × Nat} {σ : Sg} {c k : Nat} (h : a.1 = k + 1) (h2 : 0 < a.2) : mrG a σ c = upS (upc σ (σ (45 + 2 * c)) (k / 100) (k / 10 % 10) (k % 10)) 57 (σ 57 + 1) := by
  unfold mrG; rw [h]
  cases hq : a.2 with
  | zero => omega
  | succ n => rfl
theorem lsR_0 {a : Nat × Nat} (h : a.1 = 0) : lsR a = -1 := by unfold lsR; rw [h]
theorem lsR_1 {a : Nat × Nat} {k : Nat} (h : a.1 = k + 1) : lsR a = nI a.2 := by unfold lsR; rw [h]
/-! charts -/
def adR (σ : Sg) : Int32 := if 6 ≤ σ 44 then -1 else nI (σ 44)
def adS (σ : Sg) (f g : Nat) : Sg := if 6 ≤ σ 44 then upS σ 58 (σ 58 + 1) else upS (upS (upS σ (45 + 2 * σ 44) f) (46 + 2 * σ 44) g) 44 (σ 44 + 1)
/-- the charts behind c have moved as far as that of the number n - 1 -/
def rmK (σ : Sg) (c n : Nat) : Sg := fun j => if 45 + 2 * c ≤ j ∧ j + 2 < 45 + 2 * n then σ (j + 2) else σ j
def rmS (σ : Sg) (c : Nat) : Sg := upS (rmK σ c (σ 44)) 44 (σ 44 - 1)
theorem rmK_0 {σ : Sg} {c : Nat} : rmK σ c (c + 1) = σ := by
  funext j; unfold rmK; rw [if_neg (by omega)]
theorem rmK_s {σ : Sg} {c n : Nat} (h : c < n) : upS (upS (rmK σ c n) (45 + 2 * (n - 1)) (σ (45 + 2 * n))) (46 + 2 * (n - 1)) (σ (46 + 2 * n)) = rmK σ c (n + 1) := by
  funext j
  unfold upS rmK
  by_cases e1 : j = 46 + 2 * (n - 1)
  · rw [if_pos e1, if_pos (by omega), e1, show 46 + 2 * (n - 1) + 2 = 46 + 2 * n by omega]
  · rw [if_neg e1]
    by_cases e2 : j = 45 + 2 * (n - 1)
    · rw [if_pos e2, if_pos (by omega), e2, show 45 + 2 * (n - 1) + 2 = 45 + 2 * n by omega]
    · rw [if_neg e2]
      by_cases e3 : 45 + 2 * c ≤ j ∧ j + 2 < 45 + 2 * n
      · rw [if_pos e3, if_pos (by omega)]
      · rw [if_neg e3, if_neg (by omega)]
theorem rmK_hi {σ : Sg} {c n j : Nat} (h : 45 + 2 * n ≤ j + 2) : rmK σ c n j = σ j := by unfold rmK; rw [if_neg (by omega)]
theorem rmK_lo {σ : Sg} {c n j : Nat} (h : j < 45) : rmK σ c n j = σ j := by unfold rmK; rw [if_neg (by omega)]
/-! labels put one by one -/
def bit (b l : Nat) : Bool := decide (b / 2 ^ l % 2 = 1)
def lowF : Nat → Nat → Nat → Nat
  | 0, l, _ => l
  | n + 1, l, b => bif bit b l then lowF n (l + 1) b else l
def low (b : Nat) : Nat := lowF 7 0 b
theorem lowF_s {b : Nat} : ∀ (l n : Nat), l + n = 7 → (∀ j, j < l → bit b j = true) → low b = lowF n l b
  | 0, n, h, _ => by have e : n = 7 := by omega
                     rw [e]; rfl
  | l + 1, n, h, hb => by
    rw [lowF_s l (n + 1) (by omega) (fun j hj => hb j (by omega))]
    conv => lhs; unfold lowF
    rw [hb l (by omega)]; rfl
theorem low_is {b l : Nat} (hl : l ≤ 7) (hb : ∀ j, j < l → bit b j = true) (h : l = 7 ∨ bit b l = false) : low b = l := by
  rw [lowF_s l (7 - l) (by omega) hb]
  rcases h with h | h
  · subst h; rfl
  · cases hn : 7 - l with
    | zero => rfl
    | succ n => unfold lowF; rw [h]; rfl
theorem low_ex (b : Nat) : ∃ l, l ≤ 7 ∧ (∀ j, j < l → bit b j = true) ∧ (l = 7 ∨ bit b l = false) := by
  obtain ⟨l, h1, h2⟩ := pk_least (fun l => l = 7 ∨ bit b l = false) ⟨7, Or.inl rfl⟩
  refine ⟨l, ?_, fun j hj => ?_, h1⟩
  · rcases Nat.lt_or_ge 7 l with h | h
    · exact absurd (Or.inl rfl) (h2 7 h)
    · exact h
  · cases hb : bit b j with
    | true => rfl
    | false => exact absurd (Or.inr hb) (h2 j hj)
theorem bit_hi {b l : Nat} (h : b < 2 ^ l) : bit b l = false := by
  unfold bit
  rw [Nat.div_eq_of_lt h]; rfl
theorem low_lt {b l : Nat} (hl : l ≤ 7) (h : b < 2 ^ l) : low b ≤ l := by
  obtain ⟨k, h1, h2, h3⟩ := low_ex b
  rw [low_is h1 h2 h3]
  rcases Nat.lt_or_ge l k with q | q
  · have := h2 l q
    rw [bit_hi h] at this
    cases this
  · exact q
theorem low_free {b : Nat} (h : b < 128) : bit b (low b) = false := by
  obtain ⟨k, h1, h2, h3⟩ := low_ex b
  rw [low_is h1 h2 h3]
  rcases h3 with h3 | h3
  · subst h3; exact bit_hi h
  · exact h3
theorem low_below {b j : Nat} (h : j < low b) : bit b j = true := by
  obtain ⟨k, h1, h2, h3⟩ := low_ex b
  rw [low_is h1 h2 h3] at h
  exact h2 j h
/-- the labels of the pots ahead that are told from the pot i -/
def barr (σ : Sg) (p i n : Nat) : Nat := orN n (fun a => bif ap σ p a i then 2 ^ (σ (4 * a + 3) - 1) else 0)
def lbS (σ : Sg) (p : Nat) : Nat → Sg
  | 0 => σ
  | i + 1 => upS (lbS σ p i) (4 * i + 3) (low (barr (lbS σ p i) p i i) + 1)
theorem lbS_col {σ : Sg} {p : Nat} : ∀ {n j : Nat}, (∀ a, a < n → j ≠ 4 * a + 3) → lbS σ p n j = σ j
  | 0, _, _ => rfl
  | n + 1, j, h => by
    unfold lbS
    rw [upS_ne (h n (by omega))]
    exact lbS_col (fun a ha => h a (by omega))
theorem lbS_ap {σ : Sg} {p n q i j : Nat} (hn : n ≤ 8) (hq : q < 4) : ap (lbS σ p n) q i j = ap σ q i j := by
  unfold ap apW tl tC
  rw [lbS_col (j := 34 + 3 * q) (fun a ha => by omega), lbS_col (j := 33 + 3 * q) (fun a ha => by omega), lbS_col (j := 32 + 3 * q) (fun a ha => by omega), lbS_col (j := 4 * i) (fun a ha => by omega), lbS_col (j := 4 * i + 1) (fun a ha => by omega), lbS_col (j := 4 * i + 2) (fun a ha => by omega), lbS_col (j := 4 * j) (fun a ha => by omega), lbS_col (j := 4 * j + 1) (fun a ha => by omega), lbS_col (j := 4 * j + 2) (fun a ha => by omega), lbS_col (j := 32 + 3 * (σ (34 + 3 * q) - 1)) (fun a ha => by omega)]
theorem lbS_at {σ : Sg} {p : Nat} : ∀ {n a : Nat}, a < n → lbS σ p n (4 * a + 3) = low (barr (lbS σ p a) p a a) + 1
  | n + 1, a, h => by
    show upS (lbS σ p n) (4 * n + 3) (low (barr (lbS σ p n) p n n) + 1) (4 * a + 3) = _
    rcases Nat.lt_or_ge a n with q | q
    · rw [upS_ne (by omega)]; exact lbS_at q
    · have e : a = n := by omega
      subst e; rw [upS_eq]
theorem barr_lt {σ : Sg} {p i n : Nat} (h : ∀ a, a < n → σ (4 * a + 3) ≤ n) (hn : 0 < n) : barr σ p i n < 2 ^ n := orN_lt (fun a ha => by
  have := h a ha
  cases ap σ p a i
  · exact Nat.two_pow_pos n
  · exact Nat.pow_lt_pow_right (by decide) (by omega))
theorem lbS_le {σ : Sg} {p : Nat} : ∀ {n a : Nat}, n ≤ 8 → a < n → lbS σ p n (4 * a + 3) ≤ a + 1 := by
  have key : ∀ a, a < 8 → low (barr (lbS σ p a) p a a) ≤ a := by
    intro a
    induction a using Nat.strongRecOn with
    | _ a ih =>
      intro ha
      rcases Nat.eq_zero_or_pos a with h | h
      · subst h
        exact low_lt (by decide) (show (0 : Nat) < 2 ^ 0 by decide)
      · refine low_lt (by omega) (barr_lt (fun b hb => ?_) h)
        rw [lbS_at hb]
        have := ih b hb (by omega)
        omega
  intro n a hn ha
  rw [lbS_at ha]
  have := key a (by omega)
  omega
theorem barr_lt2 {σ : Sg} {p i : Nat} (hi : i < 8) : barr (lbS σ p i) p i i < 128 := by
  rcases Nat.eq_zero_or_pos i with h | h
  · subst h; exact (by decide : (0 : Nat) < 128)
  · refine Nat.lt_of_lt_of_le (barr_lt (fun a ha => ?_) h) (show 2 ^ i ≤ 2 ^ 7 from Nat.pow_le_pow_right (by decide) (by omega))
    have := lbS_le (σ := σ) (p := p) (n := i) (by omega) ha
    omega
theorem Wf.lbS {σ : Sg} (h : Wf σ) {p n : Nat} (hn : n ≤ 8) : Wf (lbS σ p n) := by
  obtain ⟨h1, h2, h3, h4⟩ := h
  refine ⟨fun q hq => ?_, fun q hq => ?_, ?_, fun c hc => ?_⟩
  · rw [lbS_col (j := 4 * q) (fun a ha => by omega), lbS_col (j := 4 * q + 1) (fun a ha => by omega), lbS_col (j := 4 * q + 2) (fun a ha => by omega)]
    refine ⟨(h1 q hq).1, (h1 q hq).2.1, (h1 q hq).2.2.1, ?_⟩
    rcases Nat.lt_or_ge q n with e | e
    · have := lbS_le (σ := σ) (p := p) hn e; omega
    · rw [lbS_col (fun a ha => by omega)]; exact (h1 q hq).2.2.2
  · rw [lbS_col (j := 32 + 3 * q) (fun a ha => by omega), lbS_col (j := 33 + 3 * q) (fun a ha => by omega), lbS_col (j := 34 + 3 * q) (fun a ha => by omega)]; exact h2 q hq
  · rw [lbS_col (j := 44) (fun a ha => by omega)]; exact h3
  · rw [lbS_col (j := 45 + 2 * c) (fun a ha => by omega), lbS_col (j := 46 + 2 * c) (fun a ha => by omega)]; exact h4 c hc
theorem ad_sym (a b : Nat) : ad a b = ad b a := by unfold ad; omega
theorem dist_sym (kd r g b r2 g2 b2 : Nat) : dist kd r g b r2 g2 b2 = dist kd r2 g2 b2 r g b := by unfold dist; rw [ad_sym, ad_sym (sG kd r g b), ad_sym (sB kd r g b)]
theorem ap_sym (σ : Sg) (p i j : Nat) : ap σ p i j = ap σ p j i := by
  unfold ap apW tl tC
  rw [dist_sym, dist_sym (σ (32 + 3 * (σ (34 + 3 * p) - 1)))]
theorem dist_self (kd r g b : Nat) : dist kd r g b r g b = 0 := by unfold dist ad; omega
theorem ap_self (σ : Sg) (p i : Nat) : ap σ p i i = false := by
  unfold ap apW tl tC
  rw [dist_self, dist_self, decide_eq_false (Nat.not_lt_zero _), Bool.and_false]; rfl
/-! how many bits -/
def popc (a : Nat) : Nat := cntN 8 (fun k => bit a k)
def bcI1 (x : Int32) : Int32 := x - ((x.toUInt32 >>> ((nI 1).toUInt32 &&& Int32.toUInt32 31)).toInt32 &&& 1431655765)
def bcI2 (x : Int32) : Int32 := (x &&& 858993459) + ((x.toUInt32 >>> ((nI 2).toUInt32 &&& Int32.toUInt32 31)).toInt32 &&& 858993459)
def bcI3 (x : Int32) : Int32 := x + (x.toUInt32 >>> ((nI 4).toUInt32 &&& Int32.toUInt32 31)).toInt32 &&& 252645135
def bcI4 (x : Int32) : Int32 := x + (x.toUInt32 >>> ((nI 8).toUInt32 &&& Int32.toUInt32 31)).toInt32
def bcI5 (x : Int32) : Int32 := x + (x.toUInt32 >>> ((nI 16).toUInt32 &&& Int32.toUInt32 31)).toInt32
theorem bc_ok {a : Nat} (h : a < 256) : bcI5 (bcI4 (bcI3 (bcI2 (bcI1 (nI a))))) &&& nI 63 = nI (popc a) := by
  have k : ∀ a, a < 256 → bcI5 (bcI4 (bcI3 (bcI2 (bcI1 (nI a))))) &&& nI 63 = nI (popc a) := by decide +kernel
  exact k a h
theorem popc_or {a l : Nat} (ha : a < 256) (hl : l < 8) (h : bit a l = false) : popc (a ||| 2 ^ l) = popc a + 1 := by
  have k : ∀ a, a < 256 → ∀ l, l < 8 → bit a l = false → popc (a ||| 2 ^ l) = popc a + 1 := by decide +kernel
  exact k a ha l hl h
theorem popc_or2 {a l : Nat} (ha : a < 256) (hl : l < 8) (h : bit a l = true) : a ||| 2 ^ l = a := by
  have k : ∀ a, a < 256 → ∀ l, l < 8 → bit a l = true → a ||| 2 ^ l = a := by decide +kernel
  exact k a ha l hl h
theorem lmask_lt {σ : Sg} (hW : Wf σ) : lmask σ < 256 := orN_lt (k := 8) (fun p hp => by
  have := (hW.1 p hp).2.2.2
  have e : lab σ p = σ (4 * p + 3) := rfl
  cases hd : decide (lab σ p = 0)
  · have h0 := of_decide_eq_false hd
    exact Nat.pow_lt_pow_right (by decide) (by omega)
  · exact Nat.two_pow_pos 8)
