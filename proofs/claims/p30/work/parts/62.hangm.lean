/-! what hangs together: the numbers that are counted along the way -/
def prO (σ : Sg) (p n : Nat) : Nat := cntN n (fun k => ap σ p (k / 8) (k % 8))
def wrB (σ : Sg) (p i j : Nat) : Bool := ap σ p i j && (!decide (σ (4 * i + 3) = 0) && decide (σ (4 * i + 3) = σ (4 * j + 3)))
def wrO (σ : Sg) (p n : Nat) : Nat := cntN n (fun k => wrB σ p (k / 8) (k % 8))
def srN (σ : Sg) (p : Nat) : Nat := cntN p (fun q => decide (wrg σ q = 0))
def TT (σ : Sg) (p n : Nat) : Nat → Int32 := fun k => if k < 64 then nI (cntN (if k < n then p + 1 else p) (fun q => ap σ q (k / 8) (k % 8))) else 0
def blF (σ : Sg) : Nat → Bool := fun k => decide (k % 8 < k / 8) && decide (tpm σ (k / 8) (k % 8) = 0)
def blO (σ : Sg) (n : Nat) : Nat := cntN n (blF σ)
def DD (σ : Sg) (q i j : Nat) : Nat := dist (σ (32 + 3 * q)) (σ (4 * i)) (σ (4 * i + 1)) (σ (4 * i + 2)) (σ (4 * j)) (σ (4 * j + 1)) (σ (4 * j + 2))
section HG
variable {σ : Sg} {p i j : Nat}
theorem prO_s (hj : j < 8) : prO σ p (8 * i + j) + (bif ap σ p i j then 1 else 0) = prO σ p (8 * i + j + 1) := by
  unfold prO
  rw [cntN_s, (dm8 hj).1, (dm8 hj).2]
theorem wrO_s (hj : j < 8) : wrO σ p (8 * i + j) + (bif wrB σ p i j then 1 else 0) = wrO σ p (8 * i + j + 1) := by
  unfold wrO
  rw [cntN_s, (dm8 hj).1, (dm8 hj).2]
theorem prO_64 : prO σ p 64 = 2 * pr σ p := sym_cnt (ap_sym σ p) (ap_self σ p)
theorem wrB_sym : wrB σ p i j = wrB σ p j i := by
  unfold wrB
  rw [ap_sym σ p i j]
  by_cases e : σ (4 * i + 3) = σ (4 * j + 3)
  · rw [e]
  · rw [decide_eq_false e, decide_eq_false (show ¬ σ (4 * j + 3) = σ (4 * i + 3) from fun q => e q.symm), Bool.and_false, Bool.and_false, Bool.and_false, Bool.and_false]
theorem wrO_64 : wrO σ p 64 = 2 * wrg σ p := by
  have h := sym_cnt (R := wrB σ p) (fun i j => wrB_sym) (fun i => by unfold wrB; rw [ap_self, Bool.false_and])
  refine h.trans (congrArg (2 * ·) (cntN_congr (fun k hk => ?_)))
  show (decide (k / 8 < k % 8) && wrB σ p (k / 8) (k % 8)) = wrF σ p k
  unfold wrB wrF lab
  cases ap σ p (k / 8) (k % 8) <;> cases decide (σ (4 * (k / 8) + 3) = 0) <;> cases decide (σ (4 * (k / 8) + 3) = σ (4 * (k % 8) + 3)) <;> rfl
theorem prO_le (n : Nat) : prO σ p n ≤ n := cntN_le _ n
theorem wrO_le (n : Nat) : wrO σ p n ≤ n := cntN_le _ n
theorem srN_le : srN σ p ≤ p := cntN_le _ p
theorem TT_0 : (fun _ => 0 : Nat → Int32) = TT σ 0 0 := by
  funext k
  unfold TT
  by_cases h : k < 64
  · rw [if_pos h, if_neg (Nat.not_lt_zero k)]; rfl
  · rw [if_neg h]
theorem TT_at {n : Nat} (hi : i < 8) (hj : j < 8) (hn : n ≤ 8 * i + j) : TT σ p n (8 * i + j) = nI (cntN p (fun q => ap σ q i j)) := by
  unfold TT
  rw [if_pos (by omega), if_neg (by omega), (dm8 hj).1, (dm8 hj).2]
theorem TT_s (hi : i < 8) (hj : j < 8) : upd (TT σ p (8 * i + j)) (8 * i + j) (nI (cntN p (fun q => ap σ q i j) + (bif ap σ p i j then 1 else 0))) = TT σ p (8 * i + j + 1) := by
  funext k
  by_cases e : k = 8 * i + j
  · subst e
    rw [upd_eq]
    unfold TT
    rw [if_pos (by omega), if_pos (by omega), cntN_s, (dm8 hj).1, (dm8 hj).2]
  · rw [upd_ne e]
    unfold TT
    by_cases h : k < 64
    · rw [if_pos h, if_pos h]
      by_cases h2 : k < 8 * i + j
      · rw [if_pos h2, if_pos (by omega)]
      · rw [if_neg h2, if_neg (by omega)]
    · rw [if_neg h, if_neg h]
theorem TT_n : TT σ p 64 = TT σ (p + 1) 0 := by
  funext k
  unfold TT
  by_cases h : k < 64
  · rw [if_pos h, if_pos h, if_pos h, if_neg (Nat.not_lt_zero k)]
  · rw [if_neg h, if_neg h]
theorem sen_cod {q : Nat} : sen σ q i = cod (sR (σ (32 + 3 * q)) (σ (4 * i)) (σ (4 * i + 1)) (σ (4 * i + 2))) (sG (σ (32 + 3 * q)) (σ (4 * i)) (σ (4 * i + 1)) (σ (4 * i + 2))) (sB (σ (32 + 3 * q)) (σ (4 * i)) (σ (4 * i + 1)) (σ (4 * i + 2))) := rfl
theorem DD_le (hW : Wf σ) {q : Nat} (hi : i < 8) (hj : j < 8) : DD σ q i j ≤ 27 := by
  obtain ⟨a1, a2, a3, -⟩ := hW.1 i hi
  obtain ⟨b1, b2, b3, -⟩ := hW.1 j hj
  exact dist_le a1 a2 a3 b1 b2 b3
theorem x_far {l : Launch} {G : GG} {M : MM} (hW : Wf σ) {q : Nat} (hi : i < 8) (hj : j < 8) : Ct l G yL_far wsL_far 1 ([.int (nI (sen σ q i)), .int (nI (sen σ q j))] : List Value) M (rI (nI (DD σ q i j)) M) := by
  obtain ⟨a1, a2, a3, -⟩ := hW.1 i hi
  obtain ⟨b1, b2, b3, -⟩ := hW.1 j hj
  rw [sen_cod, sen_cod]
  exact cl_far (sR_le a1 a2 a3) (sG_le a1 a2 a3) (sB_le a1 a2 a3) (sR_le b1 b2 b3) (sG_le b1 b2 b3) (sB_le b1 b2 b3)
/-- told apart by the own eyes, or by the lender's -/
theorem ap_own : ap σ p i j = (decide (σ (33 + 3 * p) < DD σ p i j) || (!decide (σ (34 + 3 * p) = 0) && decide (σ (33 + 3 * p) < DD σ (σ (34 + 3 * p) - 1) i j))) := rfl
theorem tom_bit (hp : p < 4) (hj : j < 8) (h : ap σ p i j = true) : bit (tom σ i) p = true := by
  unfold tom
  rw [bit_orN]
  exact ⟨j, hj, (tpm_bit hp).trans h⟩
theorem tom_lt : tom σ i < 2 ^ 31 := Nat.lt_trans (orN_lt (k := 4) (fun j _ => tpm_lt)) (by decide)
/-- the most pairs -/
theorem nI_leO {a b : Nat} (ha : a < 2 ^ 31) (hb : b < 2 ^ 31) : nI a ≤ oI b ↔ a < b := by
  cases b with
  | zero => exact ⟨fun h => absurd (Int32.lt_of_le_of_lt h (by decide : oI 0 < 0)) (nI_pos ha), fun h => absurd h (Nat.not_lt_zero a)⟩
  | succ n => exact ⟨fun h => Nat.lt_succ_of_le ((nI_leI ha (by omega)).mp h), fun h => (nI_leI ha (by omega)).mpr (by omega)⟩
theorem moF_le : ∀ n, moF σ n ≤ 129
  | 0 => Nat.zero_le _
  | n + 1 => by
    have := pr_le σ n
    have ih := moF_le n
    unfold moF
    by_cases h : moF σ n < 2 * pr σ n + 1
    · rw [if_pos h]; omega
    · rw [if_neg h]; exact ih
theorem mo_a (h : nI (prO σ p 64) ≤ oI (moF σ p)) : oI (moF σ p) = oI (moF σ (p + 1)) := by
  have h1 := (nI_leO (by have := prO_le (σ := σ) (p := p) 64; omega) (by have := moF_le (σ := σ) p; omega)).mp h
  rw [prO_64] at h1
  rw [moF, if_neg (by omega)]
theorem mo_b (h : ¬ nI (prO σ p 64) ≤ oI (moF σ p)) : nI (prO σ p 64) = oI (moF σ (p + 1)) := by
  have h1 : ¬ prO σ p 64 < moF σ p := fun q => h ((nI_leO (by have := prO_le (σ := σ) (p := p) 64; omega) (by have := moF_le (σ := σ) p; omega)).mpr q)
  rw [prO_64] at h1 ⊢
  rw [moF, if_pos (by omega)]
  rfl
theorem sum_s : 2 * sumP σ p + prO σ p 64 = 2 * sumP σ (p + 1) := by
  rw [prO_64]
  show _ = 2 * (sumP σ p + pr σ p)
  omega
theorem lend_lt (hW : Wf σ) (hp : p < 4) : (if σ (34 + 3 * p) = 0 then p else σ (34 + 3 * p) - 1) < 4 := by
  have := (hW.2.1 p hp).2.2
  by_cases e : σ (34 + 3 * p) = 0
  · rw [if_pos e]; exact hp
  · rw [if_neg e]; omega
theorem lend_pr : prW σ p ((if σ (34 + 3 * p) = 0 then p else σ (34 + 3 * p) - 1) + 1) = pr σ p := by
  unfold pr
  by_cases e : σ (34 + 3 * p) = 0
  · rw [if_pos e, prW_own, e]
  · rw [if_neg e, show σ (34 + 3 * p) - 1 + 1 = σ (34 + 3 * p) by omega]
theorem own_pr : prW σ p (p + 1) ≤ pr σ p := by
  rw [prW_own]; exact prW_le
theorem told0 : cntN 4 (fun q => ap σ q i j) = 0 ↔ tpm σ i j = 0 := by
  constructor
  · intro h
    have h2 : ∀ q, q < 4 → ap σ q i j = false := by
      intro q hq
      cases hA : ap σ q i j with
      | false => rfl
      | true =>
        have := cntN_lt (f := fun q => ap σ q i j) hq hA
        omega
    have e : tpm σ i j = orN 4 (fun _ => 0) := orN_congr (fun q hq => by rw [h2 q hq]; rfl)
    exact e
  · intro h
    refine cntN_zero (fun q hq => ?_)
    rw [← tpm_bit (σ := σ) (i := i) (j := j) hq, h, bit_0]
theorem blO_s (hij : j < i) (hi : i < 8) : blO σ (8 * i + j) + (bif decide (tpm σ i j = 0) then 1 else 0) = blO σ (8 * i + j + 1) := by
  unfold blO
  rw [cntN_s]
  unfold blF
  rw [(dm8 (by omega)).1, (dm8 (by omega)).2, decide_eq_true hij, Bool.true_and]
theorem blO_e (hi : i < 8) : blO σ (8 * i + i) = blO σ (8 * (i + 1)) := by
  unfold blO
  rw [show 8 * (i + 1) = 8 * i + i + (8 - i) by omega]
  refine (cntN_skip (fun k hk => ?_)).symm
  unfold blF
  rw [decide_eq_false (by omega), Bool.false_and]
theorem tpm_sym : tpm σ i j = tpm σ j i := orN_congr (fun q _ => by rw [ap_sym])
theorem blO_64 : blO σ 64 = nob σ := low_up (R := fun i j => decide (tpm σ i j = 0)) (fun i j => by rw [tpm_sym])
end HG
section JT2
variable {G : GG} {p : Program} {l : Launch} {e : Env} {R : Room} {s : State} {m : MethodId} {args : Array Value} {below : List Frame} {meth : Method} {c : Code} {A : Nat → Prop} {nL : Nat} {Q : State → Prop} {k9 n9 pc : Nat} {lv : List (Nat × Value)} {st : List Value} {M : MM} {T T2 : Nat → Int32} {h0 : Nat}
theorem jt_T (h : T = T2) (k : JT G h0 p l e R s m args below meth c A nL Q k9 n9 pc lv st M T2) : JT G h0 p l e R s m args below meth c A nL Q k9 n9 pc lv st M T := by
  subst h; exact k
end JT2
