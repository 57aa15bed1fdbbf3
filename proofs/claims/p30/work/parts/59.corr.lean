section JLv
variable {G : GG} {p : Program} {l : Launch} {e : Env} {R : Room} {s : State} {m : MethodId} {args : Array Value} {below : List Frame} {meth : Method} {c : Code} {A : Nat → Prop} {nL : Nat} {Q : State → Prop} {k9 n9 pc : Nat} {lv lv2 : List (Nat × Value)} {st : List Value} {M : MM} {T : Nat → Int32} {h0 : Nat}
/-- the locals written out anew -/
theorem j_lv (h : lv = lv2) (k : J G p l e R s m args below meth c A nL Q k9 n9 pc lv2 st M) : J G p l e R s m args below meth c A nL Q k9 n9 pc lv st M := by
  subst h; exact k
theorem jt_lv (h : lv = lv2) (k : JT G h0 p l e R s m args below meth c A nL Q k9 n9 pc lv2 st M T) : JT G h0 p l e R s m args below meth c A nL Q k9 n9 pc lv st M T := by
  subst h; exact k
end JLv
/-! a chart that is hung up, corrected; a colour that is tried -/
theorem adS_hi {σ : Sg} {f g : Nat} (h : σ 44 < 6) : adS σ f g = upS (upS (upS σ (45 + 2 * σ 44) f) (46 + 2 * σ 44) g) 44 (σ 44 + 1) := if_neg (by omega)
theorem adS_lo {σ : Sg} {f g j : Nat} (h : σ 44 < 6) (hj : j < 44) : adS σ f g j = σ j := by
  rw [adS_hi h, upS_ne (by omega), upS_ne (by omega), upS_ne (by omega)]
theorem adS_57 {σ : Sg} {f g : Nat} (h : σ 44 < 6) : adS σ f g 57 = σ 57 := by
  rw [adS_hi h, upS_ne (by omega), upS_ne (by omega), upS_ne (by omega)]
theorem adS_44 {σ : Sg} {f g : Nat} (h : σ 44 < 6) : adS σ f g 44 = σ 44 + 1 := by
  rw [adS_hi h, upS_eq]
theorem adS_f {σ : Sg} {f g : Nat} (h : σ 44 < 6) : adS σ f g (45 + 2 * σ 44) = f := by
  rw [adS_hi h, upS_ne (by omega), upS_ne (by omega), upS_eq]
theorem adS_g {σ : Sg} {f g : Nat} (h : σ 44 < 6) : adS σ f g (46 + 2 * σ 44) = g := by
  rw [adS_hi h, upS_ne (by omega), upS_eq]
theorem tl_co {σ τ : Sg} (h : ∀ j, j < 44 → τ j = σ j) {p i r g b : Nat} (hp : p < 4) (hi : i < 8) (hl : σ (34 + 3 * p) ≤ 4) : tl τ p (τ (34 + 3 * p)) r g b i = tl σ p (σ (34 + 3 * p)) r g b i := by
  unfold tl tC
  rw [h (34 + 3 * p) (by omega), h (33 + 3 * p) (by omega), h (32 + 3 * p) (by omega), h (32 + 3 * (σ (34 + 3 * p) - 1)) (by omega), h (4 * i) (by omega), h (4 * i + 1) (by omega), h (4 * i + 2) (by omega)]
theorem ap_co {σ τ : Sg} (h : ∀ j, j < 44 → τ j = σ j) {p i j : Nat} (hp : p < 4) (hi : i < 8) (hj : j < 8) (hl : σ (34 + 3 * p) ≤ 4) : ap τ p i j = ap σ p i j := by
  unfold ap apW
  rw [tl_co h hp hj hl, h (4 * i) (by omega), h (4 * i + 1) (by omega), h (4 * i + 2) (by omega)]
theorem ap_upc {τ : Sg} {p f g r gr b : Nat} (hp : p < 4) (hf : f < 8) (hg : g < 8) (hne : ¬ f = g) (hl : τ (34 + 3 * p) ≤ 4) : ap (upc τ f r gr b) p f g = tl τ p (τ (34 + 3 * p)) r gr b g := by
  unfold ap apW tl tC
  have e1 : upc τ f r gr b (34 + 3 * p) = τ (34 + 3 * p) := upc_ne (by omega) (by omega) (by omega)
  have e2 : upc τ f r gr b (33 + 3 * p) = τ (33 + 3 * p) := upc_ne (by omega) (by omega) (by omega)
  have e3 : upc τ f r gr b (32 + 3 * p) = τ (32 + 3 * p) := upc_ne (by omega) (by omega) (by omega)
  have e4 : upc τ f r gr b (32 + 3 * (τ (34 + 3 * p) - 1)) = τ (32 + 3 * (τ (34 + 3 * p) - 1)) := upc_ne (by omega) (by omega) (by omega)
  have e5 : upc τ f r gr b (4 * g) = τ (4 * g) := upc_ne (by omega) (by omega) (by omega)
  have e6 : upc τ f r gr b (4 * g + 1) = τ (4 * g + 1) := upc_ne (by omega) (by omega) (by omega)
  have e7 : upc τ f r gr b (4 * g + 2) = τ (4 * g + 2) := upc_ne (by omega) (by omega) (by omega)
  rw [e1, e2, e3, e4, e5, e6, e7, upc_r, upc_g, upc_b]
theorem chg_is {σ : Sg} {i k : Nat} : chg σ i k = ad (σ (4 * i)) (k / 100) + ad (σ (4 * i + 1)) (k / 10 % 10) + ad (σ (4 * i + 2)) (k % 10) := rfl
theorem ad_z {a b : Nat} (h : ad a b = 0) : a = b := by unfold ad at h; omega
theorem ad_s (a : Nat) : ad a a = 0 := by unfold ad; omega
theorem okk_0 {σ : Sg} {p f g k : Nat} (h : chg σ f k = 0) : okk σ p g k = ap σ p f g := by
  rw [chg_is] at h
  have e1 := ad_z (show ad (σ (4 * f)) (k / 100) = 0 by omega)
  have e2 := ad_z (show ad (σ (4 * f + 1)) (k / 10 % 10) = 0 by omega)
  have e3 := ad_z (show ad (σ (4 * f + 2)) (k % 10) = 0 by omega)
  unfold okk ap apW
  rw [e1, e2, e3]
theorem chg_own {σ : Sg} (hW : Wf σ) {f : Nat} (hf : f < 8) : chg σ f (cod (σ (4 * f)) (σ (4 * f + 1)) (σ (4 * f + 2))) = 0 := by
  obtain ⟨h1, h2, h3, -⟩ := hW.1 f hf
  rw [chg_is, cod_r h2 h3, cod_g h2 h3, cod_b h3, ad_s, ad_s, ad_s]
/-- nothing is nearer than what is told apart already -/
theorem nst_own {σ : Sg} (hW : Wf σ) {p f g : Nat} (hf : f < 8) (h : ap σ p f g = true) : (nst σ p f g 1000).2 = 0 := by
  obtain ⟨h1, h2, h3, -⟩ := hW.1 f hf
  have h0 := chg_own hW hf
  have := nst_min σ p f g 1000 _ (cod_lt h1 h2 h3) ((okk_0 (p := p) (g := g) h0).trans h)
  omega
theorem nst_none {σ : Sg} {p i j : Nat} (h : (nst σ p i j 1000).1 = 0) {k : Nat} (hk : k < 1000) (hc : chg σ i k < 28) : okk σ p j k = false := by
  cases ho : okk σ p j k with
  | false => rfl
  | true =>
    have h1 := nst_min σ p i j 1000 k hk ho
    have h2 := (nst_in σ p i j 1000).2.1 h
    omega
theorem chg_27 {σ : Sg} (hW : Wf σ) {f k : Nat} (hf : f < 8) (hk : k < 1000) : chg σ f k < 28 := by
  obtain ⟨h1, h2, h3, -⟩ := hW.1 f hf
  rw [chg_is]
  unfold ad
  omega
/-- the nearest colour has nothing to change just if both are told apart -/
theorem nst_iff {σ : Sg} (hW : Wf σ) {p f g k : Nat} (hf : f < 8) (h : (nst σ p f g 1000).1 = k + 1) : decide ((nst σ p f g 1000).2 = 0) = ap σ p f g := by
  obtain ⟨h1, h2, h3⟩ := (nst_in σ p f g 1000).2.2 k h
  cases hA : ap σ p f g with
  | true => exact decide_eq_true (nst_own hW hf hA)
  | false =>
    refine decide_eq_false (fun q => ?_)
    rw [okk_0 (p := p) (g := g) (h1.symm.trans q), hA] at h2
    cases h2
/-! a bit of a mask -/
theorem and1_nI {a : Nat} (h : a < 2 ^ 31) : nI a &&& nI 1 = nI (a % 2) := by
  rw [nI_and h (by decide), Nat.and_one_is_mod]
theorem bit_I {a p : Nat} (h : a < 2 ^ 31) (hp : p < 31) : nI a >>> (nI p &&& 31) &&& nI 1 = bI (bit a p) := by
  rw [nI_shr h hp, and1_nI (Nat.lt_of_le_of_lt (Nat.div_le_self _ _) h)]
  unfold bit
  rcases (show a / 2 ^ p % 2 = 0 ∨ a / 2 ^ p % 2 = 1 by omega) with e | e
  · rw [e]; rfl
  · rw [e]; rfl
theorem tpm_bit {σ : Sg} {p i j : Nat} (hp : p < 4) : bit (tpm σ i j) p = ap σ p i j := mkm_bit (fun q => ap σ q i j) 4 p hp
theorem tpm_I {σ : Sg} {p i j : Nat} (hp : p < 4) : nI (tpm σ i j) >>> (nI p &&& 31) &&& nI 1 = bI (ap σ p i j) := by
  rw [bit_I (Nat.lt_trans tpm_lt (by decide)) (by omega), tpm_bit hp]
/-- what a correction leaves -/
theorem mrG_57 {a : Nat × Nat} {τ : Sg} {c k : Nat} (h : a.1 = k + 1) : mrG a τ c 57 = τ 57 + (if 0 < a.2 then 1 else 0) := by
  by_cases h2 : 0 < a.2
  · rw [mrS_2 h h2, upS_eq, if_pos h2]
  · rw [mrS_1 h (by omega), if_neg h2]; rfl
theorem mrG_far {a : Nat × Nat} {σ τ : Sg} {c k f : Nat} (hτ : ∀ j, j < 44 → τ j = σ j) (hf : f < 8) (hc : τ (45 + 2 * c) = f) (h : a.1 = k + 1) (hd : a.2 = chg σ f k) : ad (σ (4 * f)) (mrG a τ c (4 * f)) + ad (σ (4 * f + 1)) (mrG a τ c (4 * f + 1)) + ad (σ (4 * f + 2)) (mrG a τ c (4 * f + 2)) = a.2 := by
  by_cases h2 : 0 < a.2
  · rw [mrS_2 h h2, hc, upS_ne (show 4 * f ≠ 57 by omega), upS_ne (show 4 * f + 1 ≠ 57 by omega), upS_ne (show 4 * f + 2 ≠ 57 by omega), upc_r, upc_g, upc_b, hd, chg_is]
  · rw [mrS_1 h (by omega), hτ (4 * f) (by omega), hτ (4 * f + 1) (by omega), hτ (4 * f + 2) (by omega), ad_s, ad_s, ad_s]; omega
theorem mrG_ap {a : Nat × Nat} {σ τ : Sg} {c k f g p : Nat} (hτ : ∀ j, j < 44 → τ j = σ j) (hp : p < 4) (hf : f < 8) (hg : g < 8) (hne : ¬ f = g) (hl : σ (34 + 3 * p) ≤ 4) (hc : τ (45 + 2 * c) = f) (h : a.1 = k + 1) (hd : a.2 = chg σ f k) (ho : okk σ p g k = true) : ap (mrG a τ c) p f g = true := by
  by_cases h2 : 0 < a.2
  · rw [mrS_2 h h2, hc, ap_co (σ := upc τ f (k / 100) (k / 10 % 10) (k % 10)) (fun j hj => upS_ne (by omega)) hp hf hg (by rw [upc_ne (by omega) (by omega) (by omega), hτ _ (by omega)]; exact hl), ap_upc hp hf hg hne (by rw [hτ _ (by omega)]; exact hl), tl_co hτ hp hg hl]
    exact ho
  · rw [mrS_1 h (by omega), ap_co hτ hp hf hg hl, ← okk_0 (p := p) (g := g) (k := k) (by omega)]
    exact ho
