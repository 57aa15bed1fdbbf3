/-! the state in natural numbers: 4 p .. 4 p + 2 the red, green, blue of the pot p, 4 p + 3 its label and 1 more (0: none); 32 + 3 q the kind, + 1 the sharpness, + 2 the lender and 1 more (0: none) of the painter q; 44 the charts; 45 + 2 c, 46 + 2 c figure and ground; 57 corrections; 58 refusals -/
abbrev Sg : Type := Nat → Nat
def sR (kd r g b : Nat) : Nat := match kd with | 1 => (r + g) / 2 | 3 => (r + g + b) / 3 | _ => r
def sG (kd r g b : Nat) : Nat := match kd with | 1 => (r + g) / 2 | 3 => (r + g + b) / 3 | _ => g
def sB (kd r g b : Nat) : Nat := match kd with | 2 => 0 | 3 => (r + g + b) / 3 | _ => b
def ad (a b : Nat) : Nat := (a - b) + (b - a)
def cod (r g b : Nat) : Nat := 100 * r + 10 * g + b
def dist (kd r g b r2 g2 b2 : Nat) : Nat := ad (sR kd r g b) (sR kd r2 g2 b2) + ad (sG kd r g b) (sG kd r2 g2 b2) + ad (sB kd r g b) (sB kd r2 g2 b2)
/-- does the painter p, with the eyes of the lender ln - 1 as well (0: without), tell a colour from the pot j -/
def tC (σ : Sg) (p ln r g b r2 g2 b2 : Nat) : Bool := decide (σ (33 + 3 * p) < dist (σ (32 + 3 * p)) r g b r2 g2 b2) || (!decide (ln = 0) && decide (σ (33 + 3 * p) < dist (σ (32 + 3 * (ln - 1))) r g b r2 g2 b2))
def tl (σ : Sg) (p ln r g b j : Nat) : Bool := tC σ p ln r g b (σ (4 * j)) (σ (4 * j + 1)) (σ (4 * j + 2))
def apW (σ : Sg) (p ln i j : Nat) : Bool := tl σ p ln (σ (4 * i)) (σ (4 * i + 1)) (σ (4 * i + 2)) j
def ap (σ : Sg) (p i j : Nat) : Bool := apW σ p (σ (34 + 3 * p)) i j
def cntN : Nat → (Nat → Bool) → Nat
  | 0, _ => 0
  | n + 1, f => cntN n f + (bif f n then 1 else 0)
def orN : Nat → (Nat → Nat) → Nat
  | 0, _ => 0
  | n + 1, f => orN n f ||| f n
/-- all numbers are in their ranges -/
def Wf (σ : Sg) : Prop := (∀ p, p < 8 → σ (4 * p) ≤ 9 ∧ σ (4 * p + 1) ≤ 9 ∧ σ (4 * p + 2) ≤ 9 ∧ σ (4 * p + 3) ≤ 8) ∧ (∀ q, q < 4 → σ (32 + 3 * q) ≤ 3 ∧ σ (33 + 3 * q) ≤ 27 ∧ σ (34 + 3 * q) ≤ 4) ∧ σ 44 ≤ 6 ∧ ∀ c, c < 6 → σ (45 + 2 * c) ≤ 7 ∧ σ (46 + 2 * c) ≤ 7
/-- the bureau b of the memory tells σ -/
def Bu (M : MM) (b : Nat) (σ : Sg) : Prop :=
  (∀ p, p < 8 → M.1 (8 * b + 1) p = nI (cod (σ (4 * p)) (σ (4 * p + 1)) (σ (4 * p + 2)))) ∧ (∀ p, p < 8 → M.1 (8 * b + 2) p = oI (σ (4 * p + 3))) ∧
  (∀ q, q < 4 → M.1 (8 * b + 3) q = nI (σ (32 + 3 * q))) ∧ (∀ q, q < 4 → M.1 (8 * b + 4) q = nI (σ (33 + 3 * q))) ∧ (∀ q, q < 4 → M.1 (8 * b + 5) q = oI (σ (34 + 3 * q))) ∧
  (∀ c, c < 6 → M.1 (8 * b + 6) c = nI (σ (45 + 2 * c))) ∧ (∀ c, c < 6 → M.1 (8 * b + 7) c = nI (σ (46 + 2 * c))) ∧
  M.2.1 (8 * b) 7 = nI (σ 44) ∧ M.2.1 (8 * b) 8 = nI (σ 57) ∧ M.2.1 (8 * b) 9 = nI (σ 58)
/-- how a place of the model's row shows a number -/
def sv (k n : Nat) : Int32 := bif (Nat.blt k 32 && Nat.beq (k % 4) 3) || (Nat.blt 31 k && Nat.blt k 44 && Nat.beq (k % 3) 1) then oI n else nI n
theorem sR_le {kd r g b : Nat} (hr : r ≤ 9) (hg : g ≤ 9) (hb : b ≤ 9) : sR kd r g b ≤ 9 := by unfold sR; split <;> omega
theorem sG_le {kd r g b : Nat} (hr : r ≤ 9) (hg : g ≤ 9) (hb : b ≤ 9) : sG kd r g b ≤ 9 := by unfold sG; split <;> omega
theorem sB_le {kd r g b : Nat} (hr : r ≤ 9) (hg : g ≤ 9) (hb : b ≤ 9) : sB kd r g b ≤ 9 := by unfold sB; split <;> omega
theorem cod_lt {r g b : Nat} (hr : r ≤ 9) (hg : g ≤ 9) (hb : b ≤ 9) : cod r g b < 1000 := by unfold cod; omega
theorem cod_r {r g b : Nat} (hg : g ≤ 9) (hb : b ≤ 9) : cod r g b / 100 = r := by unfold cod; omega
theorem cod_g {r g b : Nat} (hg : g ≤ 9) (hb : b ≤ 9) : cod r g b / 10 % 10 = g := by unfold cod; omega
theorem cod_b {r g b : Nat} (hb : b ≤ 9) : cod r g b % 10 = b := by unfold cod; omega
theorem mabs_nI {a b : Nat} (ha : a < 2 ^ 30) (hb : b < 2 ^ 30) : (if 0 ≤ nI a - nI b then nI a - nI b else 0 - (nI a - nI b)) = nI (ad a b) := by
  rcases Nat.lt_or_ge a b with h | h
  · rw [if_neg (Int32.not_le.mpr (pk_sneg hb h))]
    have e : (0 : Int32) - (nI a - nI b) = nI b - nI a := by
      have : ∀ x y : Int32, 0 - (x - y) = y - x := fun x y => by
        rw [Int32.zero_sub, Int32.neg_sub]
      exact this _ _
    rw [e, pk_sub (Nat.le_of_lt h)]
    congr 1; unfold ad; omega
  · rw [pk_sub h, if_pos (nI_pos' (by omega))]
    congr 1; unfold ad; omega
theorem dist_le {kd r g b r2 g2 b2 : Nat} (hr : r ≤ 9) (hg : g ≤ 9) (hb : b ≤ 9) (hr2 : r2 ≤ 9) (hg2 : g2 ≤ 9) (hb2 : b2 ≤ 9) : dist kd r g b r2 g2 b2 ≤ 27 := by
  have h1 := sR_le (kd := kd) hr hg hb
  have h2 := sG_le (kd := kd) hr hg hb
  have h3 := sB_le (kd := kd) hr hg hb
  have h4 := sR_le (kd := kd) hr2 hg2 hb2
  have h5 := sG_le (kd := kd) hr2 hg2 hb2
  have h6 := sB_le (kd := kd) hr2 hg2 hb2
  unfold dist ad; omega
theorem oI_succ (n : Nat) : oI (n + 1) = nI n := rfl
theorem oI_pos {n : Nat} (h : n ≠ 0) : oI n = nI (n - 1) := by cases n with | zero => exact absurd rfl h | succ n => rfl
theorem oI_m1 {n : Nat} (h : n < 2 ^ 31) : oI n = -1 ↔ n = 0 := by
  refine ⟨fun e => ?_, fun e => by rw [e]; rfl⟩
  cases n with
  | zero => rfl
  | succ n =>
    have h2 : nI n = -1 := e
    have h3 := nI_toInt (n := n) (by omega)
    rw [h2] at h3
    have h4 : ((-1 : Int32)).toInt = -1 := by decide
    rw [h4] at h3
    omega
theorem oI_eq {a b : Nat} (ha : a < 2 ^ 31) (hb : b < 2 ^ 31) : oI a = oI b ↔ a = b := by
  refine ⟨fun e => ?_, fun e => by rw [e]⟩
  rcases Nat.eq_zero_or_pos a with h | h
  · subst h
    exact ((oI_m1 hb).mp e.symm).symm
  · rcases Nat.eq_zero_or_pos b with h2 | h2
    · subst h2
      exact (oI_m1 ha).mp e
    · rw [oI_pos (by omega), oI_pos (by omega)] at e
      have := (nI_eq (by omega) (by omega)).mp e
      omega
section JO
variable {G : GG} {p : Program} {l : Launch} {e : Env} {R : Room} {s : State} {m : MethodId} {args : Array Value} {below : List Frame} {meth : Method} {c : Code} {A : Nat → Prop} {nL : Nat} {Q : State → Prop} {k9 n9 pc : Nat} {lv : List (Nat × Value)} {st : List Value} {M : MM} {cc : ByteArray} {own : String} {Ts : List Cond}
theorem j_icmp_eqO (C : Cx G p s m args meth c A cc nL own Ts) {a : Nat} {off : Int} {tgt : Nat} (hd : decode cc pc = .ok (.if_icmp .eq off, 3)) (ht : (pc : Int) + off = (tgt : Int)) (ha : a < 2 ^ 31)
    (kt : a = 0 → J G p l e R s m args below meth c A nL Q k9 n9 tgt lv st M) (kf : ¬ a = 0 → J G p l e R s m args below meth c A nL Q k9 n9 (pc + 3) lv st M) : J G p l e R s m args below meth c A nL Q k9 n9 pc lv (.int (-1) :: .int (oI a) :: st) M :=
  j_icmp_eq C hd ht (fun h => kt ((oI_m1 ha).mp h)) (fun h => kf (fun q => h ((oI_m1 ha).mpr q)))
theorem j_icmp_neO (C : Cx G p s m args meth c A cc nL own Ts) {a : Nat} {off : Int} {tgt : Nat} (hd : decode cc pc = .ok (.if_icmp .ne off, 3)) (ht : (pc : Int) + off = (tgt : Int)) (ha : a < 2 ^ 31)
    (kt : ¬ a = 0 → J G p l e R s m args below meth c A nL Q k9 n9 tgt lv st M) (kf : a = 0 → J G p l e R s m args below meth c A nL Q k9 n9 (pc + 3) lv st M) : J G p l e R s m args below meth c A nL Q k9 n9 pc lv (.int (-1) :: .int (oI a) :: st) M :=
  j_icmp_ne C hd ht (fun h => kt (fun q => h ((oI_m1 ha).mpr q))) (fun h => kf ((oI_m1 ha).mp h))
theorem j_icmp_neOO (C : Cx G p s m args meth c A cc nL own Ts) {a b : Nat} {off : Int} {tgt : Nat} (hd : decode cc pc = .ok (.if_icmp .ne off, 3)) (ht : (pc : Int) + off = (tgt : Int)) (ha : a < 2 ^ 31) (hb : b < 2 ^ 31)
    (kt : ¬ a = b → J G p l e R s m args below meth c A nL Q k9 n9 tgt lv st M) (kf : a = b → J G p l e R s m args below meth c A nL Q k9 n9 (pc + 3) lv st M) : J G p l e R s m args below meth c A nL Q k9 n9 pc lv (.int (oI b) :: .int (oI a) :: st) M :=
  j_icmp_ne C hd ht (fun h => kt (fun q => h ((oI_eq ha hb).mpr q))) (fun h => kf ((oI_eq ha hb).mp h))
theorem j_pick (ks : List Nat) (k : J G p l e R s m args below meth c A nL Q k9 n9 pc (lv_pick lv ks) st M) : J G p l e R s m args below meth c A nL Q k9 n9 pc lv st M := fun H locs ls hP hS hv => k H locs ls hP hS (lv_sub hv ks rfl)
end JO
/-! loops -/
theorem upto {P : Nat → Prop} {n : Nat} (hn : P n) (hs : ∀ i, i < n → P (i + 1) → P i) : ∀ i, i ≤ n → P i := by
  intro i hi
  obtain ⟨k, rfl⟩ : ∃ k, n = i + k := ⟨n - i, by omega⟩
  clear hi
  induction k generalizing i with
  | zero => exact hn
  | succ k ih => exact hs i (by omega) (ih (i + 1) (by rw [show i + 1 + k = i + (k + 1) by omega]; exact hn) (fun j hj h => hs j (by omega) h))
theorem dnto {P : Nat → Prop} {n : Nat} (hs : ∀ i, i ≤ n → (i < n → P (i + 1)) → P i) : ∀ i, i ≤ n → P i := upto (hs n (Nat.le_refl n) (fun h => absurd h (Nat.lt_irrefl n))) (fun i hi h => hs i (Nat.le_of_lt hi) (fun _ => h))
theorem cntN_le (f : Nat → Bool) : ∀ n, cntN n f ≤ n
  | 0 => Nat.le_refl 0
  | n + 1 => by have := cntN_le f n; unfold cntN; cases f n <;> simp only [cond] <;> omega
theorem cntN_s (n : Nat) (f : Nat → Bool) : cntN (n + 1) f = cntN n f + (bif f n then 1 else 0) := rfl
theorem cntN_t {n : Nat} {f : Nat → Bool} (h : f n = true) : cntN (n + 1) f = cntN n f + 1 := by rw [cntN_s, h]; rfl
theorem cntN_f {n : Nat} {f : Nat → Bool} (h : f n = false) : cntN (n + 1) f = cntN n f := by rw [cntN_s, h]; rfl
theorem cntN_skip {f : Nat → Bool} {a : Nat} : ∀ {k : Nat}, (∀ j, j < k → f (a + j) = false) → cntN (a + k) f = cntN a f
  | 0, _ => rfl
  | k + 1, h => by rw [← Nat.add_assoc, cntN_f (h k (by omega))]; exact cntN_skip (fun j hj => h j (by omega))
theorem orN_s (n : Nat) (f : Nat → Nat) : orN (n + 1) f = orN n f ||| f n := rfl
theorem orN_lt {f : Nat → Nat} {k : Nat} : ∀ {n : Nat}, (∀ j, j < n → f j < 2 ^ k) → orN n f < 2 ^ k
  | 0, _ => Nat.two_pow_pos k
  | n + 1, h => Nat.or_lt_two_pow (orN_lt (fun j hj => h j (by omega))) (h n (by omega))
theorem orN_congr {f g : Nat → Nat} : ∀ {n : Nat}, (∀ j, j < n → f j = g j) → orN n f = orN n g
  | 0, _ => rfl
  | n + 1, h => by rw [orN_s, orN_s, h n (by omega), orN_congr (fun j hj => h j (by omega))]
theorem cntN_congr {f g : Nat → Bool} : ∀ {n : Nat}, (∀ j, j < n → f j = g j) → cntN n f = cntN n g
  | 0, _ => rfl
  | n + 1, h => by rw [cntN_s, cntN_s, h n (by omega), cntN_congr (fun j hj => h j (by omega))]
theorem nI_or {a b : Nat} (ha : a < 2 ^ 31) (hb : b < 2 ^ 31) : nI a ||| nI b = nI (a ||| b) := by
  apply Int32.toBitVec_inj.mp
  apply BitVec.eq_of_toNat_eq
  rw [Int32.toBitVec_or, BitVec.toNat_or, pk_tn (by omega), pk_tn (by omega), pk_tn (Nat.lt_of_lt_of_le (Nat.or_lt_two_pow ha hb) (by decide))]
theorem nI_and {a b : Nat} (ha : a < 2 ^ 31) (hb : b < 2 ^ 31) : nI a &&& nI b = nI (a &&& b) := by
  apply Int32.toBitVec_inj.mp
  apply BitVec.eq_of_toNat_eq
  rw [Int32.toBitVec_and, BitVec.toNat_and, pk_tn (by omega), pk_tn (by omega), pk_tn (Nat.lt_of_le_of_lt Nat.and_le_left (by omega))]
theorem nI_xor {a b : Nat} (ha : a < 2 ^ 31) (hb : b < 2 ^ 31) : nI a ^^^ nI b = nI (a ^^^ b) := by
  apply Int32.toBitVec_inj.mp
  apply BitVec.eq_of_toNat_eq
  rw [Int32.toBitVec_xor, BitVec.toNat_xor, pk_tn (by omega), pk_tn (by omega), pk_tn (Nat.lt_of_lt_of_le (Nat.xor_lt_two_pow ha hb) (by decide))]
theorem nI_shl1 {k : Nat} (hk : k < 31) : nI 1 <<< (nI k &&& 31) = nI (2 ^ k) := by
  have h : ∀ k, k < 31 → nI 1 <<< (nI k &&& 31) = nI (2 ^ k) := by decide +kernel
  exact h k hk
theorem nI_shr {a k : Nat} (ha : a < 2 ^ 31) (hk : k < 31) : nI a >>> (nI k &&& 31) = nI (a / 2 ^ k) := by
  have e : nI k &&& 31 = nI k := by
    have h : ∀ k, k < 31 → nI k &&& 31 = nI k := by decide +kernel
    exact h k hk
  rw [e]
  refine pk_shrN ha _ k ?_
  have h : ∀ k, k < 31 → ((nI k).toBitVec.smod 32).toNat = k := by decide +kernel
  exact h k hk
