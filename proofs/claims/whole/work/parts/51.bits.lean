
/-! the bits of a share, by doubling -/
def bd (n : Nat) : Nat → UInt64
  | 0 => shN n
  | k + 1 => FP.dmul (bd n k) 4611686018427387904
def be : Nat → Int64
  | 0 => 1023
  | k + 1 => be k - 1
def bc (n k : Nat) : Int32 := Op.cmpValue (FP.dcmp (bd n k) FP.dconst1) .g
def bf (n k : Nat) : Int64 := (be k <<< ((nI 52).toInt64 &&& 63)) + FP.d2l (FP.dmul (FP.dsub (bd n k) FP.dconst1) 4841369599423283200)
theorem bs_pos {n : Nat} (h : n < 113) (h0 : 0 < n) : 0 < Op.cmpValue (FP.dcmp (shN n) FP.dconst0) .g := by
  have q : ∀ n, n < 113 → 0 < n → 0 < Op.cmpValue (FP.dcmp (shN n) FP.dconst0) .g := by decide +kernel
  exact q n h h0
theorem bs_8 {n : Nat} (h : n < 113) (h0 : 0 < n) : ¬ bc n 8 < 0 := by
  have q : ∀ n, n < 113 → 0 < n → ¬ bc n 8 < 0 := by decide +kernel
  exact q n h h0
def bq (n k : Nat) : Bool := decide (bc n k < 0) || (!decide (k = 0) && !decide (bc n (k - 1) < 0)) || decide (bf n k = (shN n).toInt64)
theorem bs_fin {n k : Nat} (h : n < 113) (h0 : 0 < n) (hk : k < 9) (h1 : ¬ bc n k < 0) (h2 : k = 0 ∨ bc n (k - 1) < 0) : bf n k = (shN n).toInt64 := by
  have q : ∀ n, n < 113 → 0 < n → ∀ k, k < 9 → bq n k = true := by decide +kernel
  have q2 := q n h h0 k hk
  unfold bq at q2
  rw [decide_eq_false h1] at q2
  rcases h2 with e | e
  · rw [decide_eq_true e] at q2; exact of_decide_eq_true q2
  · rw [decide_eq_true e, Bool.not_true, Bool.and_false] at q2; exact of_decide_eq_true q2
theorem bs_nan {n k : Nat} (h : n < 113) (hk : k < 9) : (FP.dmul (bd n k) 4611686018427387904 &&& 0x7fffffffffffffff ≤ 0x7ff0000000000000) ∧ (FP.dsub (bd n k) FP.dconst1 &&& 0x7fffffffffffffff ≤ 0x7ff0000000000000) ∧ (FP.dmul (FP.dsub (bd n k) FP.dconst1) 4841369599423283200 &&& 0x7fffffffffffffff ≤ 0x7ff0000000000000) := by
  have q : ∀ n, n < 113 → ∀ k, k < 9 → (FP.dmul (bd n k) 4611686018427387904 &&& 0x7fffffffffffffff ≤ 0x7ff0000000000000) ∧ (FP.dsub (bd n k) FP.dconst1 &&& 0x7fffffffffffffff ≤ 0x7ff0000000000000) ∧ (FP.dmul (FP.dsub (bd n k) FP.dconst1) 4841369599423283200 &&& 0x7fffffffffffffff ≤ 0x7ff0000000000000) := by decide +kernel
  exact q n h k hk

theorem cntN_mo {f g : Nat → Bool} (h : ∀ k, f k = true → g k = true) : ∀ n, cntN n f ≤ cntN n g
  | 0 => Nat.le_refl 0
  | n + 1 => by
    have ih := cntN_mo h n
    rw [cntN_s, cntN_s]
    have hn := h n
    cases p : f n with
    | false => exact Nat.add_le_add ih (Nat.zero_le _)
    | true => rw [hn p]; exact Nat.add_le_add ih (Nat.le_refl _)
theorem pr_28 (σ : Sg) (p : Nat) : pr σ p ≤ 28 := by
  have h1 : cntN 64 (fun k => decide (k / 8 < k % 8)) = 28 := by decide +kernel
  have h2 : pr σ p ≤ cntN 64 (fun k => decide (k / 8 < k % 8)) := cntN_mo (fun k q => by unfold prF at q; rw [Bool.and_eq_true] at q; exact q.1) 64
  omega
theorem sumP_112 (σ : Sg) : sumP σ 4 ≤ 112 := by
  have a := pr_28 σ 0
  have b := pr_28 σ 1
  have c := pr_28 σ 2
  have d := pr_28 σ 3
  show 0 + pr σ 0 + pr σ 1 + pr σ 2 + pr σ 3 ≤ 112
  omega
