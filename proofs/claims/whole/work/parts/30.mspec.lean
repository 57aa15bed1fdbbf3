/-! the model: places of its row -/
theorem sv_nI {k n : Nat} (h : ¬ (k < 32 ∧ k % 4 = 3)) (h2 : ¬ (31 < k ∧ k < 44 ∧ k % 3 = 1)) : sv k n = nI n := by
  unfold sv
  have e1 : (Nat.blt k 32 && Nat.beq (k % 4) 3) = false := by
    cases hq : (Nat.blt k 32 && Nat.beq (k % 4) 3) with
    | false => rfl
    | true =>
      rw [Bool.and_eq_true] at hq
      exact absurd ⟨by have := Nat.le_of_ble_eq_true hq.1; omega, Nat.eq_of_beq_eq_true hq.2⟩ h
  have e2 : (Nat.blt 31 k && Nat.blt k 44 && Nat.beq (k % 3) 1) = false := by
    cases hq : (Nat.blt 31 k && Nat.blt k 44 && Nat.beq (k % 3) 1) with
    | false => rfl
    | true =>
      rw [Bool.and_eq_true, Bool.and_eq_true] at hq
      exact absurd ⟨by have := Nat.le_of_ble_eq_true hq.1.1; omega, by have := Nat.le_of_ble_eq_true hq.1.2; omega, Nat.eq_of_beq_eq_true hq.2⟩ h2
  rw [e1, e2]; rfl
theorem sv_oI {k n : Nat} (h : (k < 32 ∧ k % 4 = 3) ∨ (31 < k ∧ k < 44 ∧ k % 3 = 1)) : sv k n = oI n := by
  unfold sv
  rcases h with ⟨h1, h2⟩ | ⟨h1, h2, h3⟩
  · have e1 : (Nat.blt k 32 && Nat.beq (k % 4) 3) = true := by
      rw [Bool.and_eq_true]
      exact ⟨Nat.ble_eq_true_of_le h1, by rw [h2]; rfl⟩
    rw [e1]; rfl
  · have e2 : (Nat.blt 31 k && Nat.blt k 44 && Nat.beq (k % 3) 1) = true := by
      rw [Bool.and_eq_true, Bool.and_eq_true]
      exact ⟨⟨Nat.ble_eq_true_of_le h1, Nat.ble_eq_true_of_le h2⟩, by rw [h3]; rfl⟩
    rw [e2, Bool.or_true]; rfl
theorem Sm_at {M : MM} {σ : Sg} (h : Sm M 0 σ) {k : Nat} (hk : k < 59) : M.1 85 k = sv k (σ k) := by
  have := h k hk
  rw [Nat.mul_zero, Nat.zero_add] at this
  exact this
section MR
variable {M : MM} {σ : Sg} {i : Nat}
theorem m_c0 (h : Sm M 0 σ) (hi : i < 8) : M.1 85 (4 * i) = nI (σ (4 * i)) := (Sm_at h (by omega)).trans (sv_nI (by omega) (by omega))
theorem m_c1 (h : Sm M 0 σ) (hi : i < 8) : M.1 85 (4 * i + 1) = nI (σ (4 * i + 1)) := (Sm_at h (by omega)).trans (sv_nI (by omega) (by omega))
theorem m_c2 (h : Sm M 0 σ) (hi : i < 8) : M.1 85 (4 * i + 2) = nI (σ (4 * i + 2)) := (Sm_at h (by omega)).trans (sv_nI (by omega) (by omega))
theorem m_lb (h : Sm M 0 σ) (hi : i < 8) : M.1 85 (4 * i + 3) = oI (σ (4 * i + 3)) := (Sm_at h (by omega)).trans (sv_oI (by omega))
theorem m_kd (h : Sm M 0 σ) (hi : i < 4) : M.1 85 (32 + 3 * i) = nI (σ (32 + 3 * i)) := (Sm_at h (by omega)).trans (sv_nI (by omega) (by omega))
theorem m_sh (h : Sm M 0 σ) (hi : i < 4) : M.1 85 (32 + 3 * i + 1) = nI (σ (33 + 3 * i)) := by
  rw [show 32 + 3 * i + 1 = 33 + 3 * i by omega]; exact (Sm_at h (by omega)).trans (sv_nI (by omega) (by omega))
theorem m_ln (h : Sm M 0 σ) (hi : i < 4) : M.1 85 (32 + 3 * i + 2) = oI (σ (34 + 3 * i)) := by
  rw [show 32 + 3 * i + 2 = 34 + 3 * i by omega]; exact (Sm_at h (by omega)).trans (sv_oI (by omega))
theorem m_ch (h : Sm M 0 σ) : M.1 85 44 = nI (σ 44) := (Sm_at h (by decide)).trans (sv_nI (by decide) (by decide))
theorem m_fg (h : Sm M 0 σ) (hi : i < 6) : M.1 85 (45 + 2 * i) = nI (σ (45 + 2 * i)) := (Sm_at h (by omega)).trans (sv_nI (by omega) (by omega))
theorem m_gd (h : Sm M 0 σ) (hi : i < 6) : M.1 85 (45 + 2 * i + 1) = nI (σ (46 + 2 * i)) := by
  rw [show 45 + 2 * i + 1 = 46 + 2 * i by omega]; exact (Sm_at h (by omega)).trans (sv_nI (by omega) (by omega))
theorem m_co (h : Sm M 0 σ) : M.1 85 57 = nI (σ 57) := (Sm_at h (by decide)).trans (sv_nI (by decide) (by decide))
theorem m_re (h : Sm M 0 σ) : M.1 85 58 = nI (σ 58) := (Sm_at h (by decide)).trans (sv_nI (by decide) (by decide))
end MR
def inI (v lo hi : Int32) : Bool := decide (lo ≤ v) && decide (v ≤ hi)
def thr (a b : Bool) : Nat := bif a then (bif b then 0 else 2) else 1
/-- of the model's cells the places js of the row and the fields ks have changed at the most -/
def Fr (M M' : MM) (js ks : Nat → Prop) : Prop := Off M M' (fun a => a = 84 ∨ a = 85) ∧ (∀ j, ¬ js j → M'.1 85 j = M.1 85 j) ∧ ∀ k, ¬ ks k → M'.2.1 84 k = M.2.1 84 k
def noJ : Nat → Prop := fun _ => False
theorem Fr.rf {M : MM} {js ks : Nat → Prop} : Fr M M js ks := ⟨Off.rf, fun _ _ => rfl, fun _ _ => rfl⟩
theorem Fr.tr {M M1 M2 : MM} {js ks : Nat → Prop} (h : Fr M M1 js ks) (h2 : Fr M1 M2 js ks) : Fr M M2 js ks := ⟨h.1.tr h2.1, fun j hj => (h2.2.1 j hj).trans (h.2.1 j hj), fun k hk => (h2.2.2 k hk).trans (h.2.2 k hk)⟩
theorem Fr.mono {M M1 : MM} {js ks js2 ks2 : Nat → Prop} (h : Fr M M1 js ks) (hj : ∀ a, js a → js2 a) (hk : ∀ a, ks a → ks2 a) : Fr M M1 js2 ks2 := ⟨h.1, fun j q => h.2.1 j (fun z => q (hj j z)), fun k q => h.2.2 k (fun z => q (hk k z))⟩
theorem Fr.R {M : MM} {js ks : Nat → Prop} {j : Nat} {v : Int32} (h : js j) : Fr M (setR M 85 j v) js ks := ⟨Off.R (Or.inr rfl), fun a ha => by rw [setR_eq]; exact upd_ne (fun e => ha (by rw [e]; exact h)), fun _ _ => rfl⟩
theorem Fr.V {M : MM} {js ks : Nat → Prop} {k : Nat} {v : Int32} (h : ks k) : Fr M (setV M 84 k v) js ks := ⟨Off.V (Or.inl rfl), fun _ _ => rfl, fun a ha => setV_nk (fun e => ha (by rw [e]; exact h))⟩
theorem Sm.fr {M M' : MM} {t : Nat} {σ : Sg} {js ks : Nat → Prop} (h : Sm M t σ) (ho : Fr M M' js ks) (hj : ∀ k, k < 59 → ¬ js (59 * t + k)) : Sm M' t σ := fun k hk => (ho.2.1 _ (hj k hk)).trans (h k hk)
def sP3 (kd k r g b : Nat) : Nat := match k with | 0 => sR kd r g b | 1 => sG kd r g b | _ => sB kd r g b
def dsum (kd r g b r2 g2 b2 : Nat) : Nat → Nat
  | 0 => 0
  | n + 1 => dsum kd r g b r2 g2 b2 n + ad (sP3 kd n r g b) (sP3 kd n r2 g2 b2)
theorem dsum_3 (kd r g b r2 g2 b2 : Nat) : dsum kd r g b r2 g2 b2 3 = dist kd r g b r2 g2 b2 := by
  show 0 + _ + _ + _ = _
  rw [Nat.zero_add]; rfl
theorem sP3_le {kd k r g b : Nat} (hr : r ≤ 9) (hg : g ≤ 9) (hb : b ≤ 9) : sP3 kd k r g b ≤ 9 := by
  unfold sP3
  split
  · exact sR_le hr hg hb
  · exact sG_le hr hg hb
  · exact sB_le hr hg hb
theorem size_1 {a b : Nat} (ha : a < 2 ^ 30) (hb : b < 2 ^ 30) (h : 0 ≤ nI a - nI b) : nI a - nI b = nI (ad a b) := by
  have := mabs_nI ha hb
  rw [if_pos h] at this; exact this
theorem size_2 {a b : Nat} (ha : a < 2 ^ 30) (hb : b < 2 ^ 30) (h : ¬ 0 ≤ nI a - nI b) : -(nI a - nI b) = nI (ad a b) := by
  have := mabs_nI ha hb
  rw [if_neg h, Int32.zero_sub] at this; exact this
theorem inI_t {v lo hi : Int32} (h1 : lo ≤ v) (h2 : v ≤ hi) : inI v lo hi = true := by unfold inI; rw [decide_eq_true h1, decide_eq_true h2]; rfl
theorem inI_f1 {v lo hi : Int32} (h1 : ¬ lo ≤ v) : inI v lo hi = false := by unfold inI; rw [decide_eq_false h1]; rfl
theorem inI_f2 {v lo hi : Int32} (h1 : ¬ v ≤ hi) : inI v lo hi = false := by unfold inI; rw [decide_eq_false h1, Bool.and_false]
theorem inI_N {a lo hi : Nat} (h1 : lo ≤ a) (h2 : a ≤ hi) (h3 : hi < 2 ^ 31) : inI (nI a) (nI lo) (nI hi) = true := inI_t ((nI_leI (by omega) (by omega)).mpr h1) ((nI_leI (by omega) h3).mpr h2)
/-- a mask and a bit are or'd only if the bit is told -/
theorem lsR_m1 {a : Nat × Nat} (h : a.2 < 2 ^ 30) : lsR a = -1 ↔ a.1 = 0 := by
  constructor
  · intro e
    cases hq : a.1 with
    | zero => rfl
    | succ n =>
      rw [lsR_1 hq] at e
      exact absurd ((oI_m1 (n := a.2 + 1) (by omega)).mp e) (Nat.succ_ne_zero _)
  · intro e; exact lsR_0 e
theorem lsR_p {a : Nat × Nat} (h : ¬ a.1 = 0) : lsR a = nI a.2 := by
  obtain ⟨k, hk⟩ := Nat.exists_eq_succ_of_ne_zero h
  exact lsR_1 hk
section JL
variable {G : GG} {p : Program} {l : Launch} {e : Env} {R : Room} {s : State} {m : MethodId} {args : Array Value} {below : List Frame} {meth : Method} {c : Code} {A : Nat → Prop} {nL : Nat} {Q : State → Prop} {k9 n9 pc : Nat} {lv : List (Nat × Value)} {st : List Value} {M : MM} {cc : ByteArray} {own : String} {Ts : List Cond}
theorem j_icmp_eqL (C : Cx G p s m args meth c A cc nL own Ts) {a : Nat × Nat} {off : Int} {tgt : Nat} (hd : decode cc pc = .ok (.if_icmp .eq off, 3)) (ht : (pc : Int) + off = (tgt : Int)) (ha : a.2 < 2 ^ 30)
    (kt : a.1 = 0 → J G p l e R s m args below meth c A nL Q k9 n9 tgt lv st M) (kf : ¬ a.1 = 0 → J G p l e R s m args below meth c A nL Q k9 n9 (pc + 3) lv st M) : J G p l e R s m args below meth c A nL Q k9 n9 pc lv (.int (-1) :: .int (lsR a) :: st) M :=
  j_icmp_eq C hd ht (fun h => kt ((lsR_m1 ha).mp h)) (fun h => kf (fun q => h ((lsR_m1 ha).mpr q)))
theorem j_icmp_neL (C : Cx G p s m args meth c A cc nL own Ts) {a : Nat × Nat} {off : Int} {tgt : Nat} (hd : decode cc pc = .ok (.if_icmp .ne off, 3)) (ht : (pc : Int) + off = (tgt : Int)) (ha : a.2 < 2 ^ 30)
    (kt : ¬ a.1 = 0 → J G p l e R s m args below meth c A nL Q k9 n9 tgt lv st M) (kf : a.1 = 0 → J G p l e R s m args below meth c A nL Q k9 n9 (pc + 3) lv st M) : J G p l e R s m args below meth c A nL Q k9 n9 pc lv (.int (-1) :: .int (lsR a) :: st) M :=
  j_icmp_ne C hd ht (fun h => kt (fun q => h ((lsR_m1 ha).mpr q))) (fun h => kf ((lsR_m1 ha).mp h))
end JL
