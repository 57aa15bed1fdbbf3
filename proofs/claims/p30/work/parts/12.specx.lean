theorem tC_t1 {σ : Sg} {p ln r g b r2 g2 b2 : Nat} (h : σ (33 + 3 * p) < dist (σ (32 + 3 * p)) r g b r2 g2 b2) : nI 1 = bI (tC σ p ln r g b r2 g2 b2) := by
  unfold tC; rw [decide_eq_true h]; rfl
theorem tC_t2 {σ : Sg} {p ln r g b r2 g2 b2 : Nat} (h1 : ¬ ln = 0) (h : σ (33 + 3 * p) < dist (σ (32 + 3 * (ln - 1))) r g b r2 g2 b2) : nI 1 = bI (tC σ p ln r g b r2 g2 b2) := by
  unfold tC; rw [decide_eq_true h, decide_eq_false h1]; simp [bI]
theorem tC_f1 {σ : Sg} {p ln r g b r2 g2 b2 : Nat} (h : dist (σ (32 + 3 * p)) r g b r2 g2 b2 ≤ σ (33 + 3 * p)) (h1 : ln = 0) : nI 0 = bI (tC σ p ln r g b r2 g2 b2) := by
  unfold tC; rw [decide_eq_false (Nat.not_lt.mpr h), decide_eq_true h1]; rfl
theorem tC_f2 {σ : Sg} {p ln r g b r2 g2 b2 : Nat} (h : dist (σ (32 + 3 * p)) r g b r2 g2 b2 ≤ σ (33 + 3 * p)) (h1 : dist (σ (32 + 3 * (ln - 1))) r g b r2 g2 b2 ≤ σ (33 + 3 * p)) : nI 0 = bI (tC σ p ln r g b r2 g2 b2) := by
  unfold tC; rw [decide_eq_false (Nat.not_lt.mpr h), decide_eq_false (Nat.not_lt.mpr h1)]; simp [bI]
def prF (σ : Sg) (p ln : Nat) : Nat → Bool := fun k => decide (k / 8 < k % 8) && apW σ p ln (k / 8) (k % 8)
def prW (σ : Sg) (p ln : Nat) : Nat := cntN 64 (prF σ p ln)
def pr (σ : Sg) (p : Nat) : Nat := prW σ p (σ (34 + 3 * p))
theorem cnt_t {n acc : Nat} {F : Nat → Bool} (h : acc = cntN n F) (hf : F n = true) : acc + 1 = cntN (n + 1) F := by rw [cntN_t hf, h]
theorem cnt_f {n acc : Nat} {F : Nat → Bool} (h : acc = cntN n F) (hf : F n = false) : acc = cntN (n + 1) F := by rw [cntN_f hf, h]
theorem dm8 {i j : Nat} (hj : j < 8) : (8 * i + j) / 8 = i ∧ (8 * i + j) % 8 = j := by omega
theorem prF_at {σ : Sg} {p ln i j : Nat} (hi : i < j) (hj : j < 8) : prF σ p ln (8 * i + j) = apW σ p ln i j := by
  unfold prF
  rw [(dm8 hj).1, (dm8 hj).2, decide_eq_true hi]; rfl
/-- rows of pairs: those that don't count are passed over -/
theorem tri_skip {F : Nat → Bool} {i acc : Nat} (hF : ∀ k, ¬ k / 8 < k % 8 → F k = false) (h : acc = cntN (8 * i) F) (hi : i < 8) : acc = cntN (8 * i + (i + 1)) F := by
  rw [h]
  exact (cntN_skip (fun j hj => hF _ (by omega))).symm
theorem prF_no {σ : Sg} {p ln : Nat} : ∀ k, ¬ k / 8 < k % 8 → prF σ p ln k = false := fun k h => by unfold prF; rw [decide_eq_false h]; rfl
/-- the painters who tell a pair, as a mask -/
def tpm (σ : Sg) (i j : Nat) : Nat := orN 4 (fun p => bif ap σ p i j then 2 ^ p else 0)
theorem tpm_lt {σ : Sg} {i j : Nat} : tpm σ i j < 2 ^ 4 := orN_lt (fun p hp => by
  cases ap σ p i j
  · exact Nat.two_pow_pos 4
  · exact Nat.pow_lt_pow_right (by decide) hp)
theorem or_t {n acc v : Nat} {F : Nat → Nat} (h : acc = orN n F) (hf : F n = v) : acc ||| v = orN (n + 1) F := by rw [orN_s, hf, h]
theorem or_f {n acc : Nat} {F : Nat → Nat} (h : acc = orN n F) (hf : F n = 0) : acc = orN (n + 1) F := by rw [orN_s, hf, h, Nat.or_zero]
def tom (σ : Sg) (i : Nat) : Nat := orN 8 (fun j => tpm σ i j)
def nobF (σ : Sg) : Nat → Bool := fun k => decide (k / 8 < k % 8) && decide (tpm σ (k / 8) (k % 8) = 0)
def nob (σ : Sg) : Nat := cntN 64 (nobF σ)
theorem nobF_no {σ : Sg} : ∀ k, ¬ k / 8 < k % 8 → nobF σ k = false := fun k h => by unfold nobF; rw [decide_eq_false h]; rfl
theorem nobF_at {σ : Sg} {i j : Nat} (hi : i < j) (hj : j < 8) : nobF σ (8 * i + j) = decide (tpm σ i j = 0) := by
  unfold nobF
  rw [(dm8 hj).1, (dm8 hj).2, decide_eq_true hi]; rfl
def lab (σ : Sg) (p : Nat) : Nat := σ (4 * p + 3)
def labd (σ : Sg) : Nat := cntN 8 (fun p => !decide (lab σ p = 0))
def wrF (σ : Sg) (p : Nat) : Nat → Bool := fun k => decide (k / 8 < k % 8) && (!decide (lab σ (k / 8) = 0) && (decide (lab σ (k / 8) = lab σ (k % 8)) && ap σ p (k / 8) (k % 8)))
def wrg (σ : Sg) (p : Nat) : Nat := cntN 64 (wrF σ p)
theorem wrF_no {σ : Sg} {p : Nat} : ∀ k, ¬ k / 8 < k % 8 → wrF σ p k = false := fun k h => by unfold wrF; rw [decide_eq_false h]; rfl
theorem wrF_at {σ : Sg} {p i j : Nat} (hi : i < j) (hj : j < 8) : wrF σ p (8 * i + j) = (!decide (lab σ i = 0) && (decide (lab σ i = lab σ j) && ap σ p i j)) := by
  unfold wrF
  rw [(dm8 hj).1, (dm8 hj).2, decide_eq_true hi]; rfl
def srv (σ : Sg) : Nat := cntN 4 (fun p => decide (wrg σ p = 0))
def lmask (σ : Sg) : Nat := orN 8 (fun p => bif decide (lab σ p = 0) then 0 else 2 ^ (lab σ p - 1))
def rdm (σ : Sg) (c : Nat) : Nat := tpm σ (σ (45 + 2 * c)) (σ (46 + 2 * c))
def crF (σ : Sg) (p : Nat) : Nat → Bool := fun c => ap σ p (σ (45 + 2 * c)) (σ (46 + 2 * c))
def crd (σ : Sg) (p : Nat) : Nat := cntN (σ 44) (crF σ p)
