/-- the model tells the state -/
def Xm (M : MM) (S : SS) : Prop := Sm M 0 S.1 ∧ Mm M S.2.1 S.2.2.1 ∧ (∀ t, t < 2 → M.1 86 t = bI (S.2.2.2.2.1 t)) ∧ (∀ t, t < 2 → S.2.2.2.2.1 t = true → Sm M (7 + t) (S.2.2.2.1 t)) ∧ Tm M S.2.2.2.2.2.1 S.2.2.2.2.2.2
def inM : Nat → Prop := fun a => 84 ≤ a ∧ a < 90
theorem Fr.off {M M' : MM} {js ks : Nat → Prop} (h : Fr M M' js ks) : Off M M' inM := h.1.mono (fun a ha => by unfold inM; omega)
theorem Xm.fr {M M' : MM} {S : SS} {js ks : Nat → Prop} (h : Xm M S) (ho : Fr M M' js ks) (hj : ∀ j, ¬ js j) (h1 : ¬ ks 1) (h4 : ¬ ks 4) : Xm M' S := by
  obtain ⟨a1, a2, a3, a4, a5⟩ := h
  refine ⟨a1.fr ho (fun _ _ => hj _), ⟨a2.1, (ho.2.2 1 h1).trans a2.2.1, fun k hk => (a2.2.2 k hk).fr ho (fun _ _ => hj _)⟩, fun t ht => by rw [(ho.1.1 86 (by omega)).1]; exact a3 t ht, fun t ht hf => (a4 t ht hf).fr ho (fun _ _ => hj _), ⟨a5.1, (ho.2.2 4 h4).trans a5.2.1, fun j hj2 => by rw [(ho.1.1 87 (by omega)).1]; exact a5.2.2.1 j hj2, a5.2.2.2⟩⟩
theorem Xm.thr {M : MM} {S : SS} {v : Int32} (h : Xm M S) : Xm (setV M 84 5 v) S := h.fr (js := noJ) (ks := fun k => k = 5) (Fr.V rfl) (fun _ h => h) (by omega) (by omega)
theorem Xm.save {M M' : MM} {S : SS} (h : Xm M S) (hM : Mm M' (svN S.2.1) (svS S.2.1 S.2.2.1 S.1)) (ho : Fr M M' jsS k1) : Xm M' (savS S) := by
  obtain ⟨a1, a2, a3, a4, a5⟩ := h
  refine ⟨a1.fr ho (fun k hk => by unfold jsS; omega), hM, fun t ht => by rw [(ho.1.1 86 (by omega)).1]; exact a3 t ht, fun t ht hf => (a4 t ht hf).fr ho (fun k hk => by unfold jsS; omega), ⟨a5.1, (ho.2.2 4 (by unfold k1; omega)).trans a5.2.1, fun j hj2 => by rw [(ho.1.1 87 (by omega)).1]; exact a5.2.2.1 j hj2, a5.2.2.2⟩⟩
def js0 : Nat → Prop := fun j => j < 59
theorem Xm.cur {M M' : MM} {S : SS} {σ : Sg} {ks : Nat → Prop} (h : Xm M S) (hS : Sm M' 0 σ) (ho : Fr M M' js0 ks) (h1 : ¬ ks 1) (h4 : ¬ ks 4) : Xm M' (setC S σ) := by
  obtain ⟨a1, a2, a3, a4, a5⟩ := h
  refine ⟨hS, ⟨a2.1, (ho.2.2 1 h1).trans a2.2.1, fun k hk => (a2.2.2 k hk).fr ho (fun j hj => by unfold js0; omega)⟩, fun t ht => by rw [(ho.1.1 86 (by omega)).1]; exact a3 t ht, fun t ht hf => (a4 t ht hf).fr ho (fun k hk => by unfold js0; omega), ⟨a5.1, (ho.2.2 4 h4).trans a5.2.1, fun j hj2 => by rw [(ho.1.1 87 (by omega)).1]; exact a5.2.2.1 j hj2, a5.2.2.2⟩⟩
theorem Sm_up {M : MM} {σ : Sg} {k v : Nat} (h : Sm M 0 σ) (hk : k < 59) : Sm (setR M 85 k (sv k v)) 0 (upS σ k v) := fun j hj => by
  rw [setR_eq, Nat.mul_zero, Nat.zero_add]
  by_cases e : j = k
  · subst e; rw [upd_eq, upS_eq]
  · rw [upd_ne e, upS_ne e]; exact Sm_at h hj
theorem Sm_upN {M : MM} {σ : Sg} {k v : Nat} (h : Sm M 0 σ) (hk : k < 59) (e1 : ¬ (k < 32 ∧ k % 4 = 3)) (e2 : ¬ (31 < k ∧ k < 44 ∧ k % 3 = 1)) : Sm (setR M 85 k (nI v)) 0 (upS σ k v) := by
  have := Sm_up (v := v) h hk
  rw [sv_nI e1 e2] at this; exact this
theorem Sm_upO {M : MM} {σ : Sg} {k v : Nat} (h : Sm M 0 σ) (hk : k < 59) (e : (k < 32 ∧ k % 4 = 3) ∨ (31 < k ∧ k < 44 ∧ k % 3 = 1)) : Sm (setR M 85 k (oI v)) 0 (upS σ k v) := by
  have := Sm_up (v := v) h hk
  rw [sv_oI e] at this; exact this
theorem m_pt {M : MM} {σ : Sg} {i k : Nat} (h : Sm M 0 σ) (hi : i < 8) (hk : k ≤ 2) : M.1 85 (4 * i + k) = nI (pr3 k (σ (4 * i)) (σ (4 * i + 1)) (σ (4 * i + 2))) := by
  rcases (show k = 0 ∨ k = 1 ∨ k = 2 by omega) with rfl | rfl | rfl
  · exact m_c0 h hi
  · exact m_c1 h hi
  · exact m_c2 h hi
theorem inL {v : Nat} (h : v ≤ 8) : inI (oI v) (-1) (nI 7) = true := inI_t (Int32.not_lt.mp (oI_lt h)) (oI_le h)
theorem upS_com {σ : Sg} {a b x y : Nat} (h : a ≠ b) : upS (upS σ a x) b y = upS (upS σ b y) a x := by
  funext j; unfold upS
  by_cases e1 : j = b
  · rw [if_pos e1, if_neg (by omega), if_pos e1]
  · rw [if_neg e1]
    by_cases e2 : j = a
    · rw [if_pos e2, if_pos e2]
    · rw [if_neg e2, if_neg e2, if_neg e1]
theorem Xm.keep {M M' : MM} {S : SS} {t : Nat} (h : Xm M S) (ht : t < 2) (hc : ∀ k, k < 59 → M'.1 85 (59 * (7 + t) + k) = M.1 85 (59 * 0 + k)) (ho : Fr M M' (fun j => 59 * (7 + t) ≤ j ∧ j < 59 * (7 + t) + 59) noJ) : Xm (setR M' 86 t (bI true)) (setSl S t S.1) := by
  obtain ⟨a1, a2, a3, a4, a5⟩ := h
  have hr : ∀ j, (setR M' 86 t (bI true)).1 85 j = M'.1 85 j := fun j => congrFun (setR_ne (by decide)) j
  have hs : ∀ {n : Nat} {τ : Sg}, Sm M' n τ → Sm (setR M' 86 t (bI true)) n τ := fun h k hk => (hr _).trans (h k hk)
  refine ⟨hs (a1.fr ho (fun k hk => by omega)), ⟨a2.1, (ho.2.2 1 (fun h => h)).trans a2.2.1, fun k hk => hs ((a2.2.2 k hk).fr ho (fun j hj => by have hk2 : k < S.2.1 := hk; have := a2.1; omega))⟩, fun u hu => ?_, fun u hu hf => ?_, ⟨a5.1, (ho.2.2 4 (fun h => h)).trans a5.2.1, fun j hj2 => by rw [setR_ne (by decide), (ho.1.1 87 (by omega)).1]; exact a5.2.2.1 j hj2, a5.2.2.2⟩⟩
  · show (setR M' 86 t (bI true)).1 86 u = bI (if u = t then true else S.2.2.2.2.1 u)
    rw [setR_eq]
    by_cases e : u = t
    · subst e; rw [upd_eq, if_pos rfl]
    · rw [upd_ne e, if_neg e, (ho.1.1 86 (by omega)).1]; exact a3 u hu
  · show Sm _ (7 + u) (if u = t then S.1 else S.2.2.2.1 u)
    by_cases e : u = t
    · subst e; rw [if_pos rfl]; exact hs (Sm_copy (fr := 0) a1 hc)
    · rw [if_neg e]
      have hf2 : (if u = t then true else S.2.2.2.2.1 u) = true := hf
      rw [if_neg e] at hf2
      exact hs ((a4 u hu hf2).fr ho (fun k hk => by omega))
theorem Xm.pop {M M' : MM} {S : SS} (h : Xm M S) (h0 : 0 < S.2.1) (hc : ∀ k, k < 59 → M'.1 85 (59 * 0 + k) = M.1 85 (59 * S.2.1 + k)) (ho : Fr M M' (fun j => 59 * 0 ≤ j ∧ j < 59 * 0 + 59) noJ) : Xm (setV M' 84 1 (nI (S.2.1 - 1))) (popS S) := by
  obtain ⟨a1, a2, a3, a4, a5⟩ := h
  have hq := a2.2.2 (S.2.1 - 1) (by omega)
  rw [show S.2.1 - 1 + 1 = S.2.1 by omega] at hq
  refine ⟨Sm_copy (fr := S.2.1) hq hc, ⟨by have := a2.1; show S.2.1 - 1 ≤ 6; omega, setV_eq, fun k hk => (show Sm M' (k + 1) (S.2.2.1 k) from Sm.fr (a2.2.2 k (by have : k < S.2.1 - 1 := hk; omega)) ho (fun j hj => by omega))⟩, fun u hu => by show M'.1 86 u = _; rw [(ho.1.1 86 (by omega)).1]; exact a3 u hu, fun u hu hf => (show Sm M' (7 + u) (S.2.2.2.1 u) from (a4 u hu hf).fr ho (fun k hk => by omega)), ⟨a5.1, by rw [setV_nk (by decide)]; exact (ho.2.2 4 (fun h => h)).trans a5.2.1, fun j hj2 => by show M'.1 87 j = _; rw [(ho.1.1 87 (by omega)).1]; exact a5.2.2.1 j hj2, a5.2.2.2⟩⟩
