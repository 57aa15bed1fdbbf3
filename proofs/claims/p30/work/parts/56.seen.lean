/-! the state as the law sees it: what is now; how many states are saved; the last of these -/
theorem Cw.mono {l : Launch} {G : GG} {y : MethodName} {ws : List Cond} {d : Nat} {av : List Value} {M : MM} {Q1 Q2 : Option Value → MM → Prop} (h : Cw l G y ws d av M Q1) (hq : ∀ v M', Q1 v M' → Q2 v M') : Cw l G y ws d av M Q2 := by
  intro sz p e ha hc hk s m args below hf happ hP hK
  obtain ⟨k, o, h1, h2, h3, ⟨⟨v, M', a1, a2, a3⟩, a4⟩, a5⟩ := h sz p e ha hc hk s m args below hf happ hP hK
  exact ⟨k, o, h1, h2, h3, ⟨⟨v, M', a1, hq _ _ a2, a3⟩, a4⟩, a5⟩
theorem Ct.mono {l : Launch} {G : GG} {y : MethodName} {ws : List Cond} {d : Nat} {av : List Value} {M : MM} {Q1 Q2 : Option Value → MM → Prop} (h : Ct l G y ws d av M Q1) (hq : ∀ v M', Q1 v M' → Q2 v M') : Ct l G y ws d av M Q2 := by
  intro sz p e ha hc hk s m args below hf happ hP hK
  obtain ⟨k, o, h1, h2, h3, ⟨⟨v, M', a1, a2, a3⟩, a4⟩, a5⟩ := h sz p e ha hc hk s m args below hf happ hP hK
  exact ⟨k, o, h1, h2, h3, ⟨⟨v, M', a1, hq _ _ a2, a3⟩, a4⟩, a5⟩
theorem rng_7 {j : Nat} (h1 : 45 ≤ j) (h2 : j < 57) : rng j = 7 := by unfold rng; rw [if_neg (by omega), if_neg (by omega), if_neg (by omega), if_pos h2]
theorem Wf_rmS {σ : Sg} (h : Wf σ) {c : Nat} : Wf (rmS σ c) := by
  have h44 := h.2.2.1
  unfold rmS
  refine Wf_upS (Wf_ofRng (fun j hj => ?_)) (fun _ => ?_)
  · unfold rmK
    by_cases e : 45 + 2 * c ≤ j ∧ j + 2 < 45 + 2 * σ 44
    · rw [if_pos e, rng_7 (by omega) hj]
      have h7 := Wf_rg h (j + 2) (by omega)
      rw [rng_7 (by omega) (by omega)] at h7
      exact h7
    · rw [if_neg e]; exact Wf_rg h j hj
  · show σ 44 - 1 ≤ 6
    omega
theorem Wf_adS {σ : Sg} (h : Wf σ) {f g : Nat} (hf : f < 8) (hg : g < 8) : Wf (adS σ f g) := by
  have h44 := h.2.2.1
  unfold adS
  by_cases e : 6 ≤ σ 44
  · rw [if_pos e]; exact Wf_upS h (fun q => absurd q (by decide))
  · rw [if_neg e]
    exact Wf_upS (Wf_upS (Wf_upS h (fun q => by rw [rng_7 (by omega) q]; omega)) (fun q => by rw [rng_7 (by omega) q]; omega)) (fun _ => show σ 44 + 1 ≤ 6 by omega)
theorem Wf_mrG {σ : Sg} (h : Wf σ) {a : Nat × Nat} (ha : a.1 ≤ 1000) {c : Nat} (hc : c < 6) : Wf (mrG a σ c) := by
  cases h1 : a.1 with
  | zero => rw [mrS_0 h1]; exact Wf_upS h (fun q => absurd q (by decide))
  | succ k =>
    rcases Nat.eq_zero_or_pos a.2 with h2 | h2
    · rw [mrS_1 h1 h2]; exact h
    · rw [mrS_2 h1 h2]
      have h3 := (h.2.2.2 c hc).1
      exact Wf_upS (h.upc (by omega) (by omega) (by omega) (by omega)) (fun q => absurd q (by decide))
theorem OkS_svW {S : SS} {σ : Sg} (h : OkS S) (hW : Wf σ) : OkS (svW S σ) := (OkS.save h).cur hW
def StkA : Nat → (Nat → Sg) → List Sg → Prop
  | _, _, [] => True
  | n, sv, a :: r => 0 < n ∧ sv (n - 1) = a ∧ StkA (n - 1) sv r
theorem StkA_co {s1 s2 : Nat → Sg} {d : Nat} : ∀ {L : List Sg} {n : Nat}, (∀ k, k < n → s2 k = s1 (k + d)) → L.length ≤ n → StkA (n + d) s1 L → StkA n s2 L
  | [], _, _, _, _ => trivial
  | a :: r, n, h, hl, hk => by
    obtain ⟨h1, h2, h3⟩ := hk
    have hl2 : r.length + 1 ≤ n := hl
    refine ⟨by omega, ?_, StkA_co (d := d) (n := n - 1) (fun k hk => h k (by omega)) (by omega) (by rw [show n - 1 + d = n + d - 1 by omega]; exact h3)⟩
    rw [h (n - 1) (by omega), show n - 1 + d = n + d - 1 by omega]
    exact h2
theorem StkA_len {sv : Nat → Sg} : ∀ {L : List Sg} {n : Nat}, StkA n sv L → L.length ≤ n
  | [], _, _ => Nat.zero_le _
  | a :: r, n, h => by
    have := StkA_len h.2.2
    have := h.1
    show r.length + 1 ≤ n
    omega
theorem StkA_sv {n : Nat} {sv : Nat → Sg} {σ : Sg} {L : List Sg} (hn : n ≤ 6) (hL : L.length ≤ 5) (h : StkA n sv L) : StkA (svN n) (svS n sv σ) (σ :: L) := by
  have hlen := StkA_len h
  unfold svN svS
  by_cases e : n = 6
  · subst e
    rw [if_pos rfl, if_pos rfl]
    refine ⟨by decide, if_pos rfl, ?_⟩
    refine StkA_co (d := 1) (n := 5) (s1 := sv) (fun k hk => ?_) hL h
    show (if k = 5 then σ else sv (k + 1)) = sv (k + 1)
    rw [if_neg (by omega)]
  · rw [if_neg e, if_neg e]
    refine ⟨Nat.succ_pos n, ?_, ?_⟩
    · show (if n + 1 - 1 = n then σ else sv (n + 1 - 1)) = σ
      rw [if_pos (by omega)]
    · show StkA (n + 1 - 1) (fun k => if k = n then σ else sv k) L
      rw [Nat.add_sub_cancel]
      refine StkA_co (d := 0) (n := n) (s1 := sv) (fun k hk => ?_) hlen h
      show (if k = n then σ else sv k) = sv (k + 0)
      rw [if_neg (by omega)]; rfl
def Xs (M : MM) (σ : Sg) (n : Nat) (L : List Sg) : Prop := ∃ S : SS, Xc M S ∧ OkS S ∧ S.1 = σ ∧ S.2.1 = n ∧ StkA n S.2.2.1 L
/-- and m characters in the buffer, those of f -/
def Xt (M : MM) (σ : Sg) (n : Nat) (L : List Sg) (m : Nat) (f : Nat → Nat) : Prop := ∃ S : SS, Xc M S ∧ OkS S ∧ S.1 = σ ∧ S.2.1 = n ∧ StkA n S.2.2.1 L ∧ S.2.2.2.2.2.1 = m ∧ S.2.2.2.2.2.2 = f
theorem Xs.wf {M : MM} {σ : Sg} {n : Nat} {L : List Sg} (h : Xs M σ n L) : Wf σ := by
  obtain ⟨S, hX, hO, rfl, rfl, -⟩ := h
  exact hO.1
theorem Xs.n6 {M : MM} {σ : Sg} {n : Nat} {L : List Sg} (h : Xs M σ n L) : n ≤ 6 := by
  obtain ⟨S, hX, hO, rfl, rfl, -⟩ := h
  exact hX.2.1.1
theorem Xs.nil {M : MM} {σ : Sg} {n : Nat} {L : List Sg} (h : Xs M σ n L) : Xs M σ n [] := by
  obtain ⟨S, hX, hO, h1, h2, -⟩ := h
  exact ⟨S, hX, hO, h1, h2, trivial⟩
theorem Xs.sv {M M9 : MM} {S : SS} {τ : Sg} {L : List Sg} (hX : Xc M S) (hO : OkS S) (hk : StkA S.2.1 S.2.2.1 L) (hL : L.length ≤ 5) (hX9 : Xc M9 (svW S τ)) (hτ : Wf τ) : Xs M9 τ (svN S.2.1) (S.1 :: L) := ⟨svW S τ, hX9, OkS_svW hO hτ, rfl, rfl, StkA_sv hX.2.1.1 hL hk⟩
theorem svN_s {n : Nat} (h : n ≤ 6) : 0 < svN n ∧ svN n ≤ 6 ∧ (svN n = if n < 6 then n + 1 else 6) := by
  unfold svN
  by_cases e : n = 6
  · subst e; decide
  · rw [if_neg e, if_pos (by omega)]; omega
theorem Wf_setp {σ : Sg} (h : Wf σ) {i k v : Nat} (hi : i < 8) (hk : k ≤ 2) (hv : v ≤ 9) : Wf (setp σ i k v) := Wf_upS h (fun _ => by
  unfold rng
  rw [if_pos (by omega), if_neg (by omega)]; exact hv)
theorem Wf_lab {σ : Sg} (h : Wf σ) {i v : Nat} (hi : i < 8) (hv : v ≤ 8) : Wf (upS σ (4 * i + 3) v) := Wf_upS h (fun _ => by
  unfold rng
  rw [if_pos (by omega), if_pos (by omega)]; exact hv)
theorem Wf_kin {σ : Sg} (h : Wf σ) {p v : Nat} (hp : p < 4) (hv : v ≤ 3) : Wf (upS σ (32 + 3 * p) v) := Wf_upS h (fun _ => by
  unfold rng
  rw [if_neg (by omega), if_pos (by omega), if_pos (by omega)]; exact hv)
theorem Wf_shp {σ : Sg} (h : Wf σ) {p v : Nat} (hp : p < 4) (hv : v ≤ 27) : Wf (upS σ (33 + 3 * p) v) := Wf_upS h (fun _ => by
  unfold rng
  rw [if_neg (by omega), if_pos (by omega), if_neg (by omega), if_pos (by omega)]; exact hv)
theorem Wf_len {σ : Sg} (h : Wf σ) {p v : Nat} (hp : p < 4) (hv : v ≤ 4) : Wf (upS σ (34 + 3 * p) v) := Wf_upS h (fun _ => by
  unfold rng
  rw [if_neg (by omega), if_pos (by omega), if_neg (by omega), if_neg (by omega)]; exact hv)
theorem brw_le {p q : Nat} (hq : q < 4) : brw p q ≤ 4 := by
  unfold brw
  by_cases e : p = q
  · rw [if_pos e]; omega
  · rw [if_neg e]; omega
