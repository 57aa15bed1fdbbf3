def upS (σ : Sg) (k v : Nat) : Sg := fun j => if j = k then v else σ j
theorem upS_ne {σ : Sg} {k v j : Nat} (h : j ≠ k) : upS σ k v j = σ j := if_neg h
theorem upS_eq {σ : Sg} {k v : Nat} : upS σ k v k = v := if_pos rfl
def upc (σ : Sg) (i r g b : Nat) : Sg := upS (upS (upS σ (4 * i) r) (4 * i + 1) g) (4 * i + 2) b
theorem upd_ne {f : Nat → Int32} {k j : Nat} {v : Int32} (h : j ≠ k) : upd f k v j = f j := pk_un h
theorem upd_eq {f : Nat → Int32} {k : Nat} {v : Int32} : upd f k v k = v := pk_us
/-- nothing but what P names has changed -/
def Off (M M' : MM) (P : Nat → Prop) : Prop := (∀ a, ¬ P a → M'.1 a = M.1 a ∧ M'.2.1 a = M.2.1 a) ∧ M'.2.2 = M.2.2
theorem Off.rf {M : MM} {P : Nat → Prop} : Off M M P := ⟨fun _ _ => ⟨rfl, rfl⟩, rfl⟩
theorem Off.tr {M M1 M2 : MM} {P : Nat → Prop} (h : Off M M1 P) (h2 : Off M1 M2 P) : Off M M2 P := ⟨fun a ha => ⟨((h2.1 a ha).1).trans (h.1 a ha).1, ((h2.1 a ha).2).trans (h.1 a ha).2⟩, h2.2.trans h.2⟩
theorem Off.mono {M M1 : MM} {P P2 : Nat → Prop} (h : Off M M1 P) (hp : ∀ a, P a → P2 a) : Off M M1 P2 := ⟨fun a ha => h.1 a (fun q => ha (hp a q)), h.2⟩
theorem Off.R {M : MM} {P : Nat → Prop} {i j : Nat} {v : Int32} (h : P i) : Off M (setR M i j v) P := ⟨fun a ha => ⟨setR_ne (fun e => ha (e ▸ h)), rfl⟩, rfl⟩
theorem Off.row {M : MM} {P : Nat → Prop} {i : Nat} {f : Nat → Int32} (h : P i) : Off M (setRow M i f) P := ⟨fun a ha => ⟨setRow_ne (fun e => ha (e ▸ h)), rfl⟩, rfl⟩
theorem Off.V {M : MM} {P : Nat → Prop} {i k : Nat} {v : Int32} (h : P i) : Off M (setV M i k v) P := ⟨fun a ha => ⟨rfl, funext fun b => setV_ne (fun e => ha (e ▸ h))⟩, rfl⟩
/-- the cells of the bureau b -/
def inB (b : Nat) : Nat → Prop := fun a => 8 * b ≤ a ∧ a < 8 * b + 8
theorem Bu.off {M M' : MM} {b : Nat} {σ : Sg} {P : Nat → Prop} (h : Bu M b σ) (ho : Off M M' P) (hp : ∀ k, k < 8 → ¬ P (8 * b + k)) : Bu M' b σ := by
  obtain ⟨h1, h2, h3, h4, h5, h6, h7, h8, h9, h10⟩ := h
  have e := fun k hk => (ho.1 (8 * b + k) (hp k hk)).1
  have e0 := (ho.1 (8 * b) (hp 0 (by decide))).2
  exact ⟨fun p hp => by rw [e 1 (by decide)]; exact h1 p hp, fun p hp => by rw [e 2 (by decide)]; exact h2 p hp, fun p hp => by rw [e 3 (by decide)]; exact h3 p hp, fun p hp => by rw [e 4 (by decide)]; exact h4 p hp, fun p hp => by rw [e 5 (by decide)]; exact h5 p hp, fun p hp => by rw [e 6 (by decide)]; exact h6 p hp, fun p hp => by rw [e 7 (by decide)]; exact h7 p hp, by rw [e0]; exact h8, by rw [e0]; exact h9, by rw [e0]; exact h10⟩

theorem upc_r {σ : Sg} {i r g b : Nat} : upc σ i r g b (4 * i) = r := by unfold upc; rw [upS_ne (by omega), upS_ne (by omega), upS_eq]
theorem upc_g {σ : Sg} {i r g b : Nat} : upc σ i r g b (4 * i + 1) = g := by unfold upc; rw [upS_ne (by omega), upS_eq]
theorem upc_b {σ : Sg} {i r g b : Nat} : upc σ i r g b (4 * i + 2) = b := by unfold upc; rw [upS_eq]
theorem upc_ne {σ : Sg} {i r g b j : Nat} (h1 : j ≠ 4 * i) (h2 : j ≠ 4 * i + 1) (h3 : j ≠ 4 * i + 2) : upc σ i r g b j = σ j := by unfold upc; rw [upS_ne h3, upS_ne h2, upS_ne h1]
theorem Bu_col {M : MM} {b : Nat} {σ : Sg} {i r g c9 : Nat} (hi : i < 8) (h : Bu M b σ) : Bu (setR M (8 * b + 1) i (nI (cod r g c9))) b (upc σ i r g c9) := by
  obtain ⟨h1, h2, h3, h4, h5, h6, h7, h8, h9, h10⟩ := h
  exact ⟨fun p hp => by
      by_cases e : p = i
      · subst e; rw [setR_eq, upd_eq, upc_r, upc_g, upc_b]
      · rw [setR_eq, upd_ne e, upc_ne (by omega) (by omega) (by omega), upc_ne (by omega) (by omega) (by omega), upc_ne (by omega) (by omega) (by omega)]; exact h1 p hp,
    fun p hp => by rw [setR_ne (by omega)]; unfold upc; rw [upS_ne (show 4 * p + 3 ≠ 4 * i + 2 by omega), upS_ne (show 4 * p + 3 ≠ 4 * i + 1 by omega), upS_ne (show 4 * p + 3 ≠ 4 * i by omega)]; exact h2 p hp,
    fun p hp => by rw [setR_ne (by omega)]; unfold upc; rw [upS_ne (show 32 + 3 * p ≠ 4 * i + 2 by omega), upS_ne (show 32 + 3 * p ≠ 4 * i + 1 by omega), upS_ne (show 32 + 3 * p ≠ 4 * i by omega)]; exact h3 p hp,
    fun p hp => by rw [setR_ne (by omega)]; unfold upc; rw [upS_ne (show 33 + 3 * p ≠ 4 * i + 2 by omega), upS_ne (show 33 + 3 * p ≠ 4 * i + 1 by omega), upS_ne (show 33 + 3 * p ≠ 4 * i by omega)]; exact h4 p hp,
    fun p hp => by rw [setR_ne (by omega)]; unfold upc; rw [upS_ne (show 34 + 3 * p ≠ 4 * i + 2 by omega), upS_ne (show 34 + 3 * p ≠ 4 * i + 1 by omega), upS_ne (show 34 + 3 * p ≠ 4 * i by omega)]; exact h5 p hp,
    fun p hp => by rw [setR_ne (by omega)]; unfold upc; rw [upS_ne (show 45 + 2 * p ≠ 4 * i + 2 by omega), upS_ne (show 45 + 2 * p ≠ 4 * i + 1 by omega), upS_ne (show 45 + 2 * p ≠ 4 * i by omega)]; exact h6 p hp,
    fun p hp => by rw [setR_ne (by omega)]; unfold upc; rw [upS_ne (show 46 + 2 * p ≠ 4 * i + 2 by omega), upS_ne (show 46 + 2 * p ≠ 4 * i + 1 by omega), upS_ne (show 46 + 2 * p ≠ 4 * i by omega)]; exact h7 p hp,
    by unfold upc; rw [upS_ne (show 44 ≠ 4 * i + 2 by omega), upS_ne (show 44 ≠ 4 * i + 1 by omega), upS_ne (show 44 ≠ 4 * i by omega)]; exact h8,
    by unfold upc; rw [upS_ne (show 57 ≠ 4 * i + 2 by omega), upS_ne (show 57 ≠ 4 * i + 1 by omega), upS_ne (show 57 ≠ 4 * i by omega)]; exact h9,
    by unfold upc; rw [upS_ne (show 58 ≠ 4 * i + 2 by omega), upS_ne (show 58 ≠ 4 * i + 1 by omega), upS_ne (show 58 ≠ 4 * i by omega)]; exact h10⟩
theorem Bu_lab {M : MM} {b : Nat} {σ : Sg} {i v : Nat} (hi : i < 8) (h : Bu M b σ) : Bu (setR M (8 * b + 2) i (oI v)) b (upS σ (4 * i + 3) v) := by
  obtain ⟨h1, h2, h3, h4, h5, h6, h7, h8, h9, h10⟩ := h
  exact ⟨fun p hp => by rw [setR_ne (by omega)]; rw [upS_ne (show 4 * p ≠ 4 * i + 3 by omega), upS_ne (show 4 * p + 1 ≠ 4 * i + 3 by omega), upS_ne (show 4 * p + 2 ≠ 4 * i + 3 by omega)]; exact h1 p hp,
    fun p hp => by
      by_cases e : p = i
      · subst e; rw [setR_eq, upd_eq, upS_eq]
      · rw [setR_eq, upd_ne e, upS_ne (show 4 * p + 3 ≠ 4 * i + 3 by omega)]; exact h2 p hp,
    fun p hp => by rw [setR_ne (by omega)]; rw [upS_ne (show 32 + 3 * p ≠ 4 * i + 3 by omega)]; exact h3 p hp,
    fun p hp => by rw [setR_ne (by omega)]; rw [upS_ne (show 33 + 3 * p ≠ 4 * i + 3 by omega)]; exact h4 p hp,
    fun p hp => by rw [setR_ne (by omega)]; rw [upS_ne (show 34 + 3 * p ≠ 4 * i + 3 by omega)]; exact h5 p hp,
    fun p hp => by rw [setR_ne (by omega)]; rw [upS_ne (show 45 + 2 * p ≠ 4 * i + 3 by omega)]; exact h6 p hp,
    fun p hp => by rw [setR_ne (by omega)]; rw [upS_ne (show 46 + 2 * p ≠ 4 * i + 3 by omega)]; exact h7 p hp,
    by rw [upS_ne (show 44 ≠ 4 * i + 3 by omega)]; exact h8,
    by rw [upS_ne (show 57 ≠ 4 * i + 3 by omega)]; exact h9,
    by rw [upS_ne (show 58 ≠ 4 * i + 3 by omega)]; exact h10⟩
theorem Bu_kin {M : MM} {b : Nat} {σ : Sg} {i v : Nat} (hi : i < 4) (h : Bu M b σ) : Bu (setR M (8 * b + 3) i (nI v)) b (upS σ (32 + 3 * i) v) := by
  obtain ⟨h1, h2, h3, h4, h5, h6, h7, h8, h9, h10⟩ := h
  exact ⟨fun p hp => by rw [setR_ne (by omega)]; rw [upS_ne (show 4 * p ≠ 32 + 3 * i by omega), upS_ne (show 4 * p + 1 ≠ 32 + 3 * i by omega), upS_ne (show 4 * p + 2 ≠ 32 + 3 * i by omega)]; exact h1 p hp,
    fun p hp => by rw [setR_ne (by omega)]; rw [upS_ne (show 4 * p + 3 ≠ 32 + 3 * i by omega)]; exact h2 p hp,
    fun p hp => by
      by_cases e : p = i
      · subst e; rw [setR_eq, upd_eq, upS_eq]
      · rw [setR_eq, upd_ne e, upS_ne (show 32 + 3 * p ≠ 32 + 3 * i by omega)]; exact h3 p hp,
    fun p hp => by rw [setR_ne (by omega)]; rw [upS_ne (show 33 + 3 * p ≠ 32 + 3 * i by omega)]; exact h4 p hp,
    fun p hp => by rw [setR_ne (by omega)]; rw [upS_ne (show 34 + 3 * p ≠ 32 + 3 * i by omega)]; exact h5 p hp,
    fun p hp => by rw [setR_ne (by omega)]; rw [upS_ne (show 45 + 2 * p ≠ 32 + 3 * i by omega)]; exact h6 p hp,
    fun p hp => by rw [setR_ne (by omega)]; rw [upS_ne (show 46 + 2 * p ≠ 32 + 3 * i by omega)]; exact h7 p hp,
    by rw [upS_ne (show 44 ≠ 32 + 3 * i by omega)]; exact h8,
    by rw [upS_ne (show 57 ≠ 32 + 3 * i by omega)]; exact h9,
    by rw [upS_ne (show 58 ≠ 32 + 3 * i by omega)]; exact h10⟩
theorem Bu_shp {M : MM} {b : Nat} {σ : Sg} {i v : Nat} (hi : i < 4) (h : Bu M b σ) : Bu (setR M (8 * b + 4) i (nI v)) b (upS σ (33 + 3 * i) v) := by
  obtain ⟨h1, h2, h3, h4, h5, h6, h7, h8, h9, h10⟩ := h
  exact ⟨fun p hp => by rw [setR_ne (by omega)]; rw [upS_ne (show 4 * p ≠ 33 + 3 * i by omega), upS_ne (show 4 * p + 1 ≠ 33 + 3 * i by omega), upS_ne (show 4 * p + 2 ≠ 33 + 3 * i by omega)]; exact h1 p hp,
    fun p hp => by rw [setR_ne (by omega)]; rw [upS_ne (show 4 * p + 3 ≠ 33 + 3 * i by omega)]; exact h2 p hp,
    fun p hp => by rw [setR_ne (by omega)]; rw [upS_ne (show 32 + 3 * p ≠ 33 + 3 * i by omega)]; exact h3 p hp,
    fun p hp => by
      by_cases e : p = i
      · subst e; rw [setR_eq, upd_eq, upS_eq]
      · rw [setR_eq, upd_ne e, upS_ne (show 33 + 3 * p ≠ 33 + 3 * i by omega)]; exact h4 p hp,
    fun p hp => by rw [setR_ne (by omega)]; rw [upS_ne (show 34 + 3 * p ≠ 33 + 3 * i by omega)]; exact h5 p hp,
    fun p hp => by rw [setR_ne (by omega)]; rw [upS_ne (show 45 + 2 * p ≠ 33 + 3 * i by omega)]; exact h6 p hp,
    fun p hp => by rw [setR_ne (by omega)]; rw [upS_ne (show 46 + 2 * p ≠ 33 + 3 * i by omega)]; exact h7 p hp,
    by rw [upS_ne (show 44 ≠ 33 + 3 * i by omega)]; exact h8,
    by rw [upS_ne (show 57 ≠ 33 + 3 * i by omega)]; exact h9,
    by rw [upS_ne (show 58 ≠ 33 + 3 * i by omega)]; exact h10⟩
theorem Bu_len {M : MM} {b : Nat} {σ : Sg} {i v : Nat} (hi : i < 4) (h : Bu M b σ) : Bu (setR M (8 * b + 5) i (oI v)) b (upS σ (34 + 3 * i) v) := by
  obtain ⟨h1, h2, h3, h4, h5, h6, h7, h8, h9, h10⟩ := h
  exact ⟨fun p hp => by rw [setR_ne (by omega)]; rw [upS_ne (show 4 * p ≠ 34 + 3 * i by omega), upS_ne (show 4 * p + 1 ≠ 34 + 3 * i by omega), upS_ne (show 4 * p + 2 ≠ 34 + 3 * i by omega)]; exact h1 p hp,
    fun p hp => by rw [setR_ne (by omega)]; rw [upS_ne (show 4 * p + 3 ≠ 34 + 3 * i by omega)]; exact h2 p hp,
    fun p hp => by rw [setR_ne (by omega)]; rw [upS_ne (show 32 + 3 * p ≠ 34 + 3 * i by omega)]; exact h3 p hp,
    fun p hp => by rw [setR_ne (by omega)]; rw [upS_ne (show 33 + 3 * p ≠ 34 + 3 * i by omega)]; exact h4 p hp,
    fun p hp => by
      by_cases e : p = i
      · subst e; rw [setR_eq, upd_eq, upS_eq]
      · rw [setR_eq, upd_ne e, upS_ne (show 34 + 3 * p ≠ 34 + 3 * i by omega)]; exact h5 p hp,
    fun p hp => by rw [setR_ne (by omega)]; rw [upS_ne (show 45 + 2 * p ≠ 34 + 3 * i by omega)]; exact h6 p hp,
    fun p hp => by rw [setR_ne (by omega)]; rw [upS_ne (show 46 + 2 * p ≠ 34 + 3 * i by omega)]; exact h7 p hp,
    by rw [upS_ne (show 44 ≠ 34 + 3 * i by omega)]; exact h8,
    by rw [upS_ne (show 57 ≠ 34 + 3 * i by omega)]; exact h9,
    by rw [upS_ne (show 58 ≠ 34 + 3 * i by omega)]; exact h10⟩
theorem Bu_fig {M : MM} {b : Nat} {σ : Sg} {i v : Nat} (hi : i < 6) (h : Bu M b σ) : Bu (setR M (8 * b + 6) i (nI v)) b (upS σ (45 + 2 * i) v) := by
  obtain ⟨h1, h2, h3, h4, h5, h6, h7, h8, h9, h10⟩ := h
  exact ⟨fun p hp => by rw [setR_ne (by omega)]; rw [upS_ne (show 4 * p ≠ 45 + 2 * i by omega), upS_ne (show 4 * p + 1 ≠ 45 + 2 * i by omega), upS_ne (show 4 * p + 2 ≠ 45 + 2 * i by omega)]; exact h1 p hp,
    fun p hp => by rw [setR_ne (by omega)]; rw [upS_ne (show 4 * p + 3 ≠ 45 + 2 * i by omega)]; exact h2 p hp,
    fun p hp => by rw [setR_ne (by omega)]; rw [upS_ne (show 32 + 3 * p ≠ 45 + 2 * i by omega)]; exact h3 p hp,
    fun p hp => by rw [setR_ne (by omega)]; rw [upS_ne (show 33 + 3 * p ≠ 45 + 2 * i by omega)]; exact h4 p hp,
    fun p hp => by rw [setR_ne (by omega)]; rw [upS_ne (show 34 + 3 * p ≠ 45 + 2 * i by omega)]; exact h5 p hp,
    fun p hp => by
      by_cases e : p = i
      · subst e; rw [setR_eq, upd_eq, upS_eq]
      · rw [setR_eq, upd_ne e, upS_ne (show 45 + 2 * p ≠ 45 + 2 * i by omega)]; exact h6 p hp,
    fun p hp => by rw [setR_ne (by omega)]; rw [upS_ne (show 46 + 2 * p ≠ 45 + 2 * i by omega)]; exact h7 p hp,
    by rw [upS_ne (show 44 ≠ 45 + 2 * i by omega)]; exact h8,
    by rw [upS_ne (show 57 ≠ 45 + 2 * i by omega)]; exact h9,
    by rw [upS_ne (show 58 ≠ 45 + 2 * i by omega)]; exact h10⟩
theorem Bu_gnd {M : MM} {b : Nat} {σ : Sg} {i v : Nat} (hi : i < 6) (h : Bu M b σ) : Bu (setR M (8 * b + 7) i (nI v)) b (upS σ (46 + 2 * i) v) := by
  obtain ⟨h1, h2, h3, h4, h5, h6, h7, h8, h9, h10⟩ := h
  exact ⟨fun p hp => by rw [setR_ne (by omega)]; rw [upS_ne (show 4 * p ≠ 46 + 2 * i by omega), upS_ne (show 4 * p + 1 ≠ 46 + 2 * i by omega), upS_ne (show 4 * p + 2 ≠ 46 + 2 * i by omega)]; exact h1 p hp,
    fun p hp => by rw [setR_ne (by omega)]; rw [upS_ne (show 4 * p + 3 ≠ 46 + 2 * i by omega)]; exact h2 p hp,
    fun p hp => by rw [setR_ne (by omega)]; rw [upS_ne (show 32 + 3 * p ≠ 46 + 2 * i by omega)]; exact h3 p hp,
    fun p hp => by rw [setR_ne (by omega)]; rw [upS_ne (show 33 + 3 * p ≠ 46 + 2 * i by omega)]; exact h4 p hp,
    fun p hp => by rw [setR_ne (by omega)]; rw [upS_ne (show 34 + 3 * p ≠ 46 + 2 * i by omega)]; exact h5 p hp,
    fun p hp => by rw [setR_ne (by omega)]; rw [upS_ne (show 45 + 2 * p ≠ 46 + 2 * i by omega)]; exact h6 p hp,
    fun p hp => by
      by_cases e : p = i
      · subst e; rw [setR_eq, upd_eq, upS_eq]
      · rw [setR_eq, upd_ne e, upS_ne (show 46 + 2 * p ≠ 46 + 2 * i by omega)]; exact h7 p hp,
    by rw [upS_ne (show 44 ≠ 46 + 2 * i by omega)]; exact h8,
    by rw [upS_ne (show 57 ≠ 46 + 2 * i by omega)]; exact h9,
    by rw [upS_ne (show 58 ≠ 46 + 2 * i by omega)]; exact h10⟩
theorem Bu_chs {M : MM} {b : Nat} {σ : Sg} {v : Nat} (h : Bu M b σ) : Bu (setV M (8 * b) 7 (nI v)) b (upS σ 44 v) := by
  obtain ⟨h1, h2, h3, h4, h5, h6, h7, h8, h9, h10⟩ := h
  exact ⟨fun p hp => by rw [upS_ne (show 4 * p ≠ 44 by omega), upS_ne (show 4 * p + 1 ≠ 44 by omega), upS_ne (show 4 * p + 2 ≠ 44 by omega)]; exact h1 p hp,
    fun p hp => by rw [upS_ne (show 4 * p + 3 ≠ 44 by omega)]; exact h2 p hp,
    fun p hp => by rw [upS_ne (show 32 + 3 * p ≠ 44 by omega)]; exact h3 p hp,
    fun p hp => by rw [upS_ne (show 33 + 3 * p ≠ 44 by omega)]; exact h4 p hp,
    fun p hp => by rw [upS_ne (show 34 + 3 * p ≠ 44 by omega)]; exact h5 p hp,
    fun p hp => by rw [upS_ne (show 45 + 2 * p ≠ 44 by omega)]; exact h6 p hp,
    fun p hp => by rw [upS_ne (show 46 + 2 * p ≠ 44 by omega)]; exact h7 p hp,
    by rw [setV_eq, upS_eq],
    by rw [setV_nk (by decide)]; rw [upS_ne (show 57 ≠ 44 by omega)]; exact h9,
    by rw [setV_nk (by decide)]; rw [upS_ne (show 58 ≠ 44 by omega)]; exact h10⟩
theorem Bu_cor {M : MM} {b : Nat} {σ : Sg} {v : Nat} (h : Bu M b σ) : Bu (setV M (8 * b) 8 (nI v)) b (upS σ 57 v) := by
  obtain ⟨h1, h2, h3, h4, h5, h6, h7, h8, h9, h10⟩ := h
  exact ⟨fun p hp => by rw [upS_ne (show 4 * p ≠ 57 by omega), upS_ne (show 4 * p + 1 ≠ 57 by omega), upS_ne (show 4 * p + 2 ≠ 57 by omega)]; exact h1 p hp,
    fun p hp => by rw [upS_ne (show 4 * p + 3 ≠ 57 by omega)]; exact h2 p hp,
    fun p hp => by rw [upS_ne (show 32 + 3 * p ≠ 57 by omega)]; exact h3 p hp,
    fun p hp => by rw [upS_ne (show 33 + 3 * p ≠ 57 by omega)]; exact h4 p hp,
    fun p hp => by rw [upS_ne (show 34 + 3 * p ≠ 57 by omega)]; exact h5 p hp,
    fun p hp => by rw [upS_ne (show 45 + 2 * p ≠ 57 by omega)]; exact h6 p hp,
    fun p hp => by rw [upS_ne (show 46 + 2 * p ≠ 57 by omega)]; exact h7 p hp,
    by rw [setV_nk (by decide)]; rw [upS_ne (show 44 ≠ 57 by omega)]; exact h8,
    by rw [setV_eq, upS_eq],
    by rw [setV_nk (by decide)]; rw [upS_ne (show 58 ≠ 57 by omega)]; exact h10⟩
theorem Bu_ref {M : MM} {b : Nat} {σ : Sg} {v : Nat} (h : Bu M b σ) : Bu (setV M (8 * b) 9 (nI v)) b (upS σ 58 v) := by
  obtain ⟨h1, h2, h3, h4, h5, h6, h7, h8, h9, h10⟩ := h
  exact ⟨fun p hp => by rw [upS_ne (show 4 * p ≠ 58 by omega), upS_ne (show 4 * p + 1 ≠ 58 by omega), upS_ne (show 4 * p + 2 ≠ 58 by omega)]; exact h1 p hp,
    fun p hp => by rw [upS_ne (show 4 * p + 3 ≠ 58 by omega)]; exact h2 p hp,
    fun p hp => by rw [upS_ne (show 32 + 3 * p ≠ 58 by omega)]; exact h3 p hp,
    fun p hp => by rw [upS_ne (show 33 + 3 * p ≠ 58 by omega)]; exact h4 p hp,
    fun p hp => by rw [upS_ne (show 34 + 3 * p ≠ 58 by omega)]; exact h5 p hp,
    fun p hp => by rw [upS_ne (show 45 + 2 * p ≠ 58 by omega)]; exact h6 p hp,
    fun p hp => by rw [upS_ne (show 46 + 2 * p ≠ 58 by omega)]; exact h7 p hp,
    by rw [setV_nk (by decide)]; rw [upS_ne (show 44 ≠ 58 by omega)]; exact h8,
    by rw [setV_nk (by decide)]; rw [upS_ne (show 57 ≠ 58 by omega)]; exact h9,
    by rw [setV_eq, upS_eq]⟩
theorem putB_7 {G : GG} {M : MM} {b : Nat} {v : Int32} (hb : b < 9) : cellOf G (setV M (8 * b) 7 v) (8 * b) = .inr (0, ([.ref (G.2.2 (8 * b + 1)), .ref (G.2.2 (8 * b + 2)), .ref (G.2.2 (8 * b + 3)), .ref (G.2.2 (8 * b + 4)), .ref (G.2.2 (8 * b + 5)), .ref (G.2.2 (8 * b + 6)), .ref (G.2.2 (8 * b + 7)), .int (M.2.1 (8 * b) 7), .int (M.2.1 (8 * b) 8), .int (M.2.1 (8 * b) 9)] : List Value).set 7 (.int v)) := by
  rw [cell_B hb]; unfold cellB; rw [setV_eq, setV_nk (by decide), setV_nk (by decide)]; rfl
theorem putB_8 {G : GG} {M : MM} {b : Nat} {v : Int32} (hb : b < 9) : cellOf G (setV M (8 * b) 8 v) (8 * b) = .inr (0, ([.ref (G.2.2 (8 * b + 1)), .ref (G.2.2 (8 * b + 2)), .ref (G.2.2 (8 * b + 3)), .ref (G.2.2 (8 * b + 4)), .ref (G.2.2 (8 * b + 5)), .ref (G.2.2 (8 * b + 6)), .ref (G.2.2 (8 * b + 7)), .int (M.2.1 (8 * b) 7), .int (M.2.1 (8 * b) 8), .int (M.2.1 (8 * b) 9)] : List Value).set 8 (.int v)) := by
  rw [cell_B hb]; unfold cellB; rw [setV_eq, setV_nk (by decide), setV_nk (by decide)]; rfl
theorem putB_9 {G : GG} {M : MM} {b : Nat} {v : Int32} (hb : b < 9) : cellOf G (setV M (8 * b) 9 v) (8 * b) = .inr (0, ([.ref (G.2.2 (8 * b + 1)), .ref (G.2.2 (8 * b + 2)), .ref (G.2.2 (8 * b + 3)), .ref (G.2.2 (8 * b + 4)), .ref (G.2.2 (8 * b + 5)), .ref (G.2.2 (8 * b + 6)), .ref (G.2.2 (8 * b + 7)), .int (M.2.1 (8 * b) 7), .int (M.2.1 (8 * b) 8), .int (M.2.1 (8 * b) 9)] : List Value).set 9 (.int v)) := by
  rw [cell_B hb]; unfold cellB; rw [setV_eq, setV_nk (by decide), setV_nk (by decide)]; rfl
