theorem updL_0 {f : Nat → Int64} {x : Int64} : vp_updL f 0 x 0 = x := if_pos rfl
def Oz (M M9 : MM) : Prop := ∀ a, ¬ inX a → M9.1 a = M.1 a ∧ M9.2.1 a = M.2.1 a
def Rc (S' : SS) (t : Nat) (r : Int32) (M : MM) : Option Value → MM → Prop := fun v9 M9 => v9 = some (.int (nI t)) ∧ (Xc M9 S' ∧ Oz M M9 ∧ (t = 0 → M9.2.2.2 0 = r.toInt64))
def Rm (S' : SS) (t : Nat) (r : Int32) (M : MM) : Option Value → MM → Prop := fun v9 M9 => ∃ b : Int32, v9 = some (.int b) ∧ ((t = 0 → b = r) ∧ Xm M9 S' ∧ Off M M9 inM ∧ M9.2.1 84 5 = nI t)
theorem Cw.mono {l : Launch} {G : GG} {y : MethodName} {ws : List Cond} {d : Nat} {av : List Value} {M : MM} {Q1 Q2 : Option Value → MM → Prop} (h : Cw l G y ws d av M Q1) (hq : ∀ v M', Q1 v M' → Q2 v M') : Cw l G y ws d av M Q2 := by
  intro sz p e ha hc hk s m args below hf happ hP hK
  obtain ⟨k, o, h1, h2, h3, ⟨⟨v, M', a1, a2, a3⟩, a4⟩, a5⟩ := h sz p e ha hc hk s m args below hf happ hP hK
  exact ⟨k, o, h1, h2, h3, ⟨⟨v, M', a1, hq _ _ a2, a3⟩, a4⟩, a5⟩
theorem Ct.mono {l : Launch} {G : GG} {y : MethodName} {ws : List Cond} {d : Nat} {av : List Value} {M : MM} {Q1 Q2 : Option Value → MM → Prop} (h : Ct l G y ws d av M Q1) (hq : ∀ v M', Q1 v M' → Q2 v M') : Ct l G y ws d av M Q2 := by
  intro sz p e ha hc hk s m args below hf happ hP hK
  obtain ⟨k, o, h1, h2, h3, ⟨⟨v, M', a1, a2, a3⟩, a4⟩, a5⟩ := h sz p e ha hc hk s m args below hf happ hP hK
  exact ⟨k, o, h1, h2, h3, ⟨⟨v, M', a1, hq _ _ a2, a3⟩, a4⟩, a5⟩
theorem rc_w {S' : SS} {r : Int32} {M M9 : MM} {v : Option Value} (h : v = some (.int (nI 0)) ∧ ∃ M1, (Xc M1 S' ∧ Of M M1 inX) ∧ M9 = setO M1 (vp_updL M1.2.2.2 0 r.toInt64)) : Rc S' 0 r M v M9 := by
  obtain ⟨h1, M1, ⟨x1, x2⟩, rfl⟩ := h
  exact ⟨h1, x1, fun a ha => x2.1 a ha, fun _ => updL_0 (f := M1.2.2.2) (x := r.toInt64)⟩
theorem rc_r {S : SS} {r : Int32} {M M9 : MM} {v : Option Value} (hX : Xc M S) (h : v = some (.int (nI 0)) ∧ ∃ M1, M1 = M ∧ M9 = setO M1 (vp_updL M1.2.2.2 0 r.toInt64)) : Rc S 0 r M v M9 := by
  obtain ⟨h1, M1, rfl, rfl⟩ := h
  exact ⟨h1, hX, fun a ha => ⟨rfl, rfl⟩, fun _ => updL_0 (f := M1.2.2.2) (x := r.toInt64)⟩
theorem rc_e {S : SS} {r : Int32} {t : Nat} {M M9 : MM} {v : Option Value} (hX : Xc M S) (ht : t ≠ 0) (h : rI (nI t) M v M9) : Rc S t r M v M9 := by
  obtain ⟨h1, rfl⟩ := h
  exact ⟨h1, hX, fun a ha => ⟨rfl, rfl⟩, fun e => absurd e ht⟩
theorem rm_w {S' : SS} {r : Int32} {M M9 : MM} {v : Option Value} (h : v = some (.int r) ∧ Xm M9 S' ∧ Off M M9 inM ∧ M9.2.1 84 5 = nI 0) : Rm S' 0 r M v M9 := ⟨r, h.1, fun _ => rfl, h.2⟩
theorem rm_t {S : SS} {r : Int32} {t : Nat} {M M9 : MM} {v : Option Value} (hX : Xm M S) (ht : t ≠ 0) (h : rI (nI 0) (setV M 84 5 (nI t)) v M9) : Rm S t r M v M9 := by
  obtain ⟨h1, rfl⟩ := h
  exact ⟨nI 0, h1, fun e => absurd e ht, hX.thr, Off.V (by unfold inM; omega), setV_eq⟩
theorem rm_e {S : SS} {r : Int32} {t : Nat} {a b : Bool} {M M9 : MM} {v : Option Value} (hX : Xm M S) (e : thr a b = t) (ht : t ≠ 0) (h : rI (nI 0) (setV M 84 5 (nI (thr a b))) v M9) : Rm S t r M v M9 := by
  subst e; exact rm_t hX ht h
theorem thr_1 {a b : Bool} (h : a = false) : thr a b = 1 := by subst h; rfl
theorem thr_2 {a b : Bool} (h : a = true) (h2 : b = false) : thr a b = 2 := by subst h; subst h2; rfl
theorem and_f1 {a b : Bool} (h : a = false) : (a && b) = false := by subst h; rfl
theorem and_f2 {a b : Bool} (h : b = false) : (a && b) = false := by subst h; exact Bool.and_false a
theorem and_tt {a b : Bool} (h : a = true) (h2 : b = true) : (a && b) = true := by subst h; subst h2; rfl
theorem inI_sp {v lo hi : Int32} (h : inI v lo hi = true) : lo ≤ v ∧ v ≤ hi := by
  unfold inI at h
  rw [Bool.and_eq_true] at h
  exact ⟨of_decide_eq_true h.1, of_decide_eq_true h.2⟩
theorem inI_nat {v : Int32} {lo n : Nat} (h : inI v (nI lo) (nI n) = true) (hl : lo < 2 ^ 31) (hn : n < 2 ^ 31) : ∃ j, lo ≤ j ∧ j ≤ n ∧ v = nI j := by
  obtain ⟨h1, h2⟩ := inI_sp h
  have h3 := Int32.le_iff_toInt_le.mp h1
  have h4 := Int32.le_iff_toInt_le.mp h2
  rw [nI_toInt hl] at h3
  rw [nI_toInt hn] at h4
  obtain ⟨j, hj, rfl⟩ := nI_of (x := v) (fun q => by
    have q2 := Int32.lt_iff_toInt_lt.mp q
    have e : (0 : Int32).toInt = 0 := by decide
    rw [e] at q2; omega)
  rw [nI_toInt hj] at h3 h4
  exact ⟨j, by omega, by omega, rfl⟩
theorem inI_lab {v : Int32} (h : inI v (-1) (nI 7) = true) : ∃ j, j ≤ 8 ∧ v = oI j := by
  obtain ⟨h1, h2⟩ := inI_sp h
  have h3 := Int32.le_iff_toInt_le.mp h1
  have h4 := Int32.le_iff_toInt_le.mp h2
  have e : (-1 : Int32).toInt = -1 := by decide
  rw [e] at h3
  rw [nI_toInt (by decide)] at h4
  by_cases hz : v.toInt = -1
  · exact ⟨0, by decide, Int32.toInt_inj.mp (hz.trans e.symm)⟩
  · obtain ⟨j, hj, rfl⟩ := nI_of (x := v) (fun q => by
      have q2 := Int32.lt_iff_toInt_lt.mp q
      have e2 : (0 : Int32).toInt = 0 := by decide
      rw [e2] at q2; omega)
    rw [nI_toInt hj] at h4
    exact ⟨j + 1, by omega, rfl⟩
theorem inI_ch {v : Int32} {n : Nat} (h : inI v (nI 0) (nI n - nI 1) = true) (hn : n ≤ 6) : ∃ j, j < n ∧ v = nI j := by
  obtain ⟨h1, h2⟩ := inI_sp h
  have h3 := Int32.le_iff_toInt_le.mp h1
  have h4 := Int32.le_iff_toInt_le.mp h2
  have e : ∀ n, n < 7 → (nI n - nI 1).toInt = (n : Int) - 1 := by decide +kernel
  rw [e n (by omega)] at h4
  rw [nI_toInt (by decide)] at h3
  obtain ⟨j, hj, rfl⟩ := nI_of (x := v) (fun q => by
    have q2 := Int32.lt_iff_toInt_lt.mp q
    have e2 : (0 : Int32).toInt = 0 := by decide
    rw [e2] at q2; omega)
  rw [nI_toInt hj] at h4
  exact ⟨j, by omega, rfl⟩
theorem inI_chN {j n : Nat} (h : j < n) (hn : n ≤ 6) : inI (nI j) (nI 0) (nI n - nI 1) = true := by
  rw [pk_sub (by omega)]; exact inI_N (Nat.zero_le j) (by omega) (by omega)
theorem isS_no {v : Int32} (h : inI v (nI 0) (nI 1) = false) : isS v = false := by
  unfold isS
  have h0 : ¬ v = 0 := fun e => by rw [e] at h; exact absurd h (by decide)
  have h1 : ¬ v = nI 1 := fun e => by rw [e] at h; exact absurd h (by decide)
  rw [decide_eq_false h0, decide_eq_false h1]; rfl
theorem rng_7 {j : Nat} (h1 : 45 ≤ j) (h2 : j < 57) : rng j = 7 := by unfold rng; rw [if_neg (by omega), if_neg (by omega), if_neg (by omega), if_pos h2]
theorem Wf_rmS {σ : Sg} (h : Wf σ) {c : Nat} : Wf (rmS σ c) := by
  have h44 := h.2.2.1
  unfold rmS
  refine Wf_upS (Wf_ofRng (fun j hj => ?_)) (fun _ => ?_)
  · unfold rmK
    by_cases e : 45 + 2 * c ≤ j ∧ j + 2 < 45 + 2 * σ 44
    · rw [if_pos e, rng_7 (by omega) hj]
      have h7 := Wf_rg h (j + 2) (by omega)
      rw [rng_7 (by omega) (by omega)] at h7
      exact h7
    · rw [if_neg e]; exact Wf_rg h j hj
  · show σ 44 - 1 ≤ 6
    omega
theorem Wf_adS {σ : Sg} (h : Wf σ) {f g : Nat} (hf : f < 8) (hg : g < 8) : Wf (adS σ f g) := by
  have h44 := h.2.2.1
  unfold adS
  by_cases e : 6 ≤ σ 44
  · rw [if_pos e]; exact Wf_upS h (fun q => absurd q (by decide))
  · rw [if_neg e]
    exact Wf_upS (Wf_upS (Wf_upS h (fun q => by rw [rng_7 (by omega) q]; omega)) (fun q => by rw [rng_7 (by omega) q]; omega)) (fun _ => show σ 44 + 1 ≤ 6 by omega)
theorem Wf_mrG {σ : Sg} (h : Wf σ) {a : Nat × Nat} (ha : a.1 ≤ 1000) {c : Nat} (hc : c < 6) : Wf (mrG a σ c) := by
  cases h1 : a.1 with
  | zero => rw [mrS_0 h1]; exact Wf_upS h (fun q => absurd q (by decide))
  | succ k =>
    rcases Nat.eq_zero_or_pos a.2 with h2 | h2
    · rw [mrS_1 h1 h2]; exact h
    · rw [mrS_2 h1 h2]
      have h3 := (h.2.2.2 c hc).1
      exact Wf_upS (h.upc (by omega) (by omega) (by omega) (by omega)) (fun q => absurd q (by decide))
theorem OkS_svW {S : SS} {σ : Sg} (h : OkS S) (hW : Wf σ) : OkS (svW S σ) := (OkS.save h).cur hW
theorem rng_c {i k : Nat} (hi : i < 8) (hk : k ≤ 2) : rng (4 * i + k) = 9 := by unfold rng; rw [if_pos (by omega), if_neg (by omega)]
theorem rng_l {i : Nat} (hi : i < 8) : rng (4 * i + 3) = 8 := by unfold rng; rw [if_pos (by omega), if_pos (by omega)]
theorem rng_k {p : Nat} (hp : p < 4) : rng (32 + 3 * p) = 3 := by unfold rng; rw [if_neg (by omega), if_pos (by omega), if_pos (by omega)]
theorem rng_s {p : Nat} (hp : p < 4) : rng (33 + 3 * p) = 27 := by unfold rng; rw [if_neg (by omega), if_pos (by omega), if_neg (by omega), if_pos (by omega)]
theorem rng_b {p : Nat} (hp : p < 4) : rng (34 + 3 * p) = 4 := by unfold rng; rw [if_neg (by omega), if_pos (by omega), if_neg (by omega), if_neg (by omega)]
theorem tpT_5 {n : Nat} {f : Nat → Nat} (h : tpT n f = true) : n % 6 = 5 := by
  unfold tpT at h
  rw [Bool.and_eq_true] at h
  exact of_decide_eq_true h.1
/-- both sides of a call -/
def Bo (l : Launch) (G : GG) (S : SS) (y y2 : MethodName) (w w2 : List Cond) (d2 : Nat) (av av2 : List Value) : Prop := ∃ (t : Nat) (r : Int32) (S' : SS), t ≤ 2 ∧ OkS S' ∧ (∀ M, Xc M S → Cw l G y w 12 av M (Rc S' t r M)) ∧ ∀ M, Xm M S → Ct l G y2 w2 d2 av2 M (Rm S' t r M)

set_option maxHeartbeats 4000000 in
theorem bo_mix {l : Launch} {G : GG} (hl : l.stackTraces = false) {S : SS} (hO : OkS S) {a b d : Int32} : Bo l G S yL_mix yX6_mix wsL_mix wsX6_mix 4 [.ref (G.2.2 72), .int a, .int b, .int d, .ref (G.2.2 90)] [.ref (G.2.2 84), .int a, .int b, .int d] := by
  have hW := hO.1
  have h44 := hW.2.2.1
  cases h1 : inI a (nI 0) (nI 7) with
  | false => exact ⟨1, 0, S, by decide, hO, fun M hX => (we_mix_1 (dd := 1) (by decide) (tt_mix_1 hl h1)).mono (fun v M9 q => rc_e hX (by decide) q), fun M hX => (cf_mix (and_f1 h1)).mono (fun v M9 q => rm_e hX (thr_1 h1) (by decide) q)⟩
  | true =>
    obtain ⟨i, -, hi, rfl⟩ := inI_nat h1 (by decide) (by decide)
    cases h2 : inI b (nI 0) (nI 2) with
    | false => exact ⟨2, 0, S, by decide, hO, fun M hX => (we_mix_2 (dd := 1) (by decide) (tt_mix_2 hl (by omega) h2)).mono (fun v M9 q => rc_e hX (by decide) q), fun M hX => (cf_mix (and_f2 (and_f1 h2))).mono (fun v M9 q => rm_e hX (thr_2 h1 (and_f1 h2)) (by decide) q)⟩
    | true =>
      obtain ⟨k, -, hk, rfl⟩ := inI_nat h2 (by decide) (by decide)
      cases h3 : inI d (nI 0) (nI 9) with
      | false => exact ⟨2, 0, S, by decide, hO, fun M hX => (we_mix_2 (dd := 1) (by decide) (tt_mix_3 hl (by omega) hk h3)).mono (fun v M9 q => rc_e hX (by decide) q), fun M hX => (cf_mix (and_f2 (and_f2 h3))).mono (fun v M9 q => rm_e hX (thr_2 h1 (and_f2 h3)) (by decide) q)⟩
      | true =>
        obtain ⟨v, -, hv, rfl⟩ := inI_nat h3 (by decide) (by decide)
        exact ⟨0, _, svW S (setp S.1 i k v), by decide, OkS_svW hO (Wf_upS hW (fun _ => by rw [rng_c (by omega) hk]; exact hv)), fun M hX => (wo_mix (P := fun M1 => Xc M1 (svW S (setp S.1 i k v)) ∧ Of M M1 inX) (dd := 4) (by decide) (ct_mix hX hO (by omega) hk hv)).mono (fun v M9 q => rc_w q), fun M hX => (cm_mix hX hO (by omega) hk hv).mono (fun v M9 q => rm_w q)⟩

set_option maxHeartbeats 4000000 in
theorem bo_painter {l : Launch} {G : GG} (hl : l.stackTraces = false) {S : SS} (hO : OkS S) {a b d : Int32} : Bo l G S yL_painter yX6_painter wsL_painter wsX6_painter 4 [.ref (G.2.2 72), .int a, .int b, .int d, .ref (G.2.2 90)] [.ref (G.2.2 84), .int a, .int b, .int d] := by
  have hW := hO.1
  have h44 := hW.2.2.1
  cases h1 : inI a (nI 0) (nI 3) with
  | false => exact ⟨1, 0, S, by decide, hO, fun M hX => (we_painter_1 (dd := 1) (by decide) (tt_painter_1 hl h1)).mono (fun v M9 q => rc_e hX (by decide) q), fun M hX => (cf_painter (and_f1 h1)).mono (fun v M9 q => rm_e hX (thr_1 h1) (by decide) q)⟩
  | true =>
    obtain ⟨p, -, hp, rfl⟩ := inI_nat h1 (by decide) (by decide)
    cases h2 : inI b (nI 0) (nI 1) with
    | false => exact ⟨2, 0, S, by decide, hO, fun M hX => (we_painter_2 (dd := 1) (by decide) (tt_painter_2 hl (by omega) h2)).mono (fun v M9 q => rc_e hX (by decide) q), fun M hX => (cf_painter (and_f2 (and_f1 h2))).mono (fun v M9 q => rm_e hX (thr_2 h1 (and_f1 h2)) (by decide) q)⟩
    | true =>
      obtain ⟨k, -, hk, rfl⟩ := inI_nat h2 (by decide) (by decide)
      rcases (show k = 0 ∨ k = 1 by omega) with rfl | rfl
      · cases h3 : inI d (nI 0) (nI 3) with
        | false => exact ⟨2, 0, S, by decide, hO, fun M hX => (we_painter_2 (dd := 1) (by decide) (tt_painter_3 hl (by omega) h3)).mono (fun v M9 q => rc_e hX (by decide) q), fun M hX => (cf_painter (and_f2 (and_f2 (by rw [if_pos (by decide)]; exact h3)))).mono (fun v M9 q => rm_e hX (thr_2 h1 (and_f2 (by rw [if_pos (by decide)]; exact h3))) (by decide) q)⟩
        | true =>
          obtain ⟨v, -, hv, rfl⟩ := inI_nat h3 (by decide) (by decide)
          exact ⟨0, _, svW S (upS S.1 (32 + 3 * p) v), by decide, OkS_svW hO (Wf_upS hW (fun _ => by rw [rng_k (by omega)]; exact hv)), fun M hX => (wo_painter (P := fun M1 => Xc M1 (svW S (upS S.1 (32 + 3 * p) v)) ∧ Of M M1 inX) (dd := 3) (by decide) (ct_painter_0 hX hO (by omega) hv)).mono (fun v M9 q => rc_w q), fun M hX => (cm_painter_0 hX hO (by omega) hv).mono (fun v M9 q => rm_w q)⟩
      · cases h3 : inI d (nI 0) (nI 27) with
        | false => exact ⟨2, 0, S, by decide, hO, fun M hX => (we_painter_2 (dd := 1) (by decide) (tt_painter_4 hl (by omega) h3)).mono (fun v M9 q => rc_e hX (by decide) q), fun M hX => (cf_painter (and_f2 (and_f2 (by rw [if_neg (by decide)]; exact h3)))).mono (fun v M9 q => rm_e hX (thr_2 h1 (and_f2 (by rw [if_neg (by decide)]; exact h3))) (by decide) q)⟩
        | true =>
          obtain ⟨v, -, hv, rfl⟩ := inI_nat h3 (by decide) (by decide)
          exact ⟨0, _, svW S (upS S.1 (33 + 3 * p) v), by decide, OkS_svW hO (Wf_upS hW (fun _ => by rw [rng_s (by omega)]; exact hv)), fun M hX => (wo_painter (P := fun M1 => Xc M1 (svW S (upS S.1 (33 + 3 * p) v)) ∧ Of M M1 inX) (dd := 3) (by decide) (ct_painter_1 hX hO (by omega) hv)).mono (fun v M9 q => rc_w q), fun M hX => (cm_painter_1 hX hO (by omega) hv).mono (fun v M9 q => rm_w q)⟩

set_option maxHeartbeats 4000000 in
theorem bo_borrow {l : Launch} {G : GG} (hl : l.stackTraces = false) {S : SS} (hO : OkS S) {a b : Int32} : Bo l G S yL_borrow yX6_borrow wsL_borrow wsX6_borrow 4 [.ref (G.2.2 72), .int a, .int b, .ref (G.2.2 90)] [.ref (G.2.2 84), .int a, .int b] := by
  have hW := hO.1
  have h44 := hW.2.2.1
  cases h1 : inI a (nI 0) (nI 3) with
  | false => exact ⟨1, 0, S, by decide, hO, fun M hX => (we_borrow_1 (dd := 1) (by decide) (tt_borrow_1 hl h1)).mono (fun v M9 q => rc_e hX (by decide) q), fun M hX => (cf_borrow (and_f1 (and_f1 h1))).mono (fun v M9 q => rm_e hX (thr_1 (and_f1 h1)) (by decide) q)⟩
  | true =>
    obtain ⟨p, -, hp, rfl⟩ := inI_nat h1 (by decide) (by decide)
    cases h2 : inI b (nI 0) (nI 3) with
    | false => exact ⟨1, 0, S, by decide, hO, fun M hX => (we_borrow_1 (dd := 1) (by decide) (tt_borrow_2 hl (by omega) h2)).mono (fun v M9 q => rc_e hX (by decide) q), fun M hX => (cf_borrow (and_f1 (and_f2 h2))).mono (fun v M9 q => rm_e hX (thr_1 (and_f2 h2)) (by decide) q)⟩
    | true =>
      obtain ⟨q, -, hq, rfl⟩ := inI_nat h2 (by decide) (by decide)
      exact ⟨0, _, svW S (upS S.1 (34 + 3 * p) (brw p q)), by decide, OkS_svW hO (Wf_upS hW (fun _ => by rw [rng_b (by omega)]; unfold brw; split <;> omega)), fun M hX => (wo_borrow (P := fun M1 => Xc M1 (svW S (upS S.1 (34 + 3 * p) (brw p q))) ∧ Of M M1 inX) (dd := 3) (by decide) (ct_borrow hX hO (by omega) (by omega))).mono (fun v M9 q => rc_w q), fun M hX => (cm_borrow hX hO (by omega) (by omega)).mono (fun v M9 q => rm_w q)⟩

set_option maxHeartbeats 4000000 in
theorem bo_label {l : Launch} {G : GG} (hl : l.stackTraces = false) {S : SS} (hO : OkS S) {a b : Int32} : Bo l G S yL_label yX6_label wsL_label wsX6_label 4 [.ref (G.2.2 72), .int a, .int b, .ref (G.2.2 90)] [.ref (G.2.2 84), .int a, .int b] := by
  have hW := hO.1
  have h44 := hW.2.2.1
  cases h1 : inI a (nI 0) (nI 7) with
  | false => exact ⟨1, 0, S, by decide, hO, fun M hX => (we_label_1 (dd := 1) (by decide) (tt_label_1 hl h1)).mono (fun v M9 q => rc_e hX (by decide) q), fun M hX => (cf_label (and_f1 h1)).mono (fun v M9 q => rm_e hX (thr_1 h1) (by decide) q)⟩
  | true =>
    obtain ⟨i, -, hi, rfl⟩ := inI_nat h1 (by decide) (by decide)
    cases h2 : inI b (-1) (nI 7) with
    | false => exact ⟨2, 0, S, by decide, hO, fun M hX => (we_label_2 (dd := 1) (by decide) (tt_label_2 hl (by omega) h2)).mono (fun v M9 q => rc_e hX (by decide) q), fun M hX => (cf_label (and_f2 h2)).mono (fun v M9 q => rm_e hX (thr_2 h1 h2) (by decide) q)⟩
    | true =>
      obtain ⟨v, hv, rfl⟩ := inI_lab h2
      exact ⟨0, _, svW S (upS S.1 (4 * i + 3) v), by decide, OkS_svW hO (Wf_upS hW (fun _ => by rw [rng_l (by omega)]; exact hv)), fun M hX => (wo_label (P := fun M1 => Xc M1 (svW S (upS S.1 (4 * i + 3) v)) ∧ Of M M1 inX) (dd := 3) (by decide) (ct_label hX hO (by omega) hv)).mono (fun v M9 q => rc_w q), fun M hX => (cm_label hX hO (by omega) hv).mono (fun v M9 q => rm_w q)⟩

set_option maxHeartbeats 4000000 in
theorem bo_labelAll {l : Launch} {G : GG} (hl : l.stackTraces = false) {S : SS} (hO : OkS S) {a : Int32} : Bo l G S yL_labelAll yX6_labelAll wsL_labelAll wsX6_labelAll 6 [.ref (G.2.2 72), .int a, .ref (G.2.2 90)] [.ref (G.2.2 84), .int a] := by
  have hW := hO.1
  have h44 := hW.2.2.1
  cases h1 : inI a (nI 0) (nI 3) with
  | false => exact ⟨1, 0, S, by decide, hO, fun M hX => (we_labelAll_1 (dd := 1) (by decide) (tt_labelAll_1 hl h1)).mono (fun v M9 q => rc_e hX (by decide) q), fun M hX => (cf_labelAll (and_f1 h1)).mono (fun v M9 q => rm_e hX (thr_1 h1) (by decide) q)⟩
  | true =>
    obtain ⟨p, -, hp, rfl⟩ := inI_nat h1 (by decide) (by decide)
    exact ⟨0, _, svW S (lbS S.1 p 8), by decide, OkS_svW hO (hW.lbS (by decide)), fun M hX => (wo_labelAll (P := fun M1 => Xc M1 (svW S (lbS S.1 p 8)) ∧ Of M M1 inX) (dd := 6) (by decide) (ct_labelAll hX hO (by omega))).mono (fun v M9 q => rc_w q), fun M hX => (cm_labelAll hX hO (by omega)).mono (fun v M9 q => rm_w q)⟩

set_option maxHeartbeats 4000000 in
theorem bo_hang {l : Launch} {G : GG} (hl : l.stackTraces = false) {S : SS} (hO : OkS S) {a b : Int32} : Bo l G S yL_hang yX6_hang wsL_hang wsX6_hang 4 [.ref (G.2.2 72), .int a, .int b, .ref (G.2.2 90)] [.ref (G.2.2 84), .int a, .int b] := by
  have hW := hO.1
  have h44 := hW.2.2.1
  cases h1 : inI a (nI 0) (nI 7) with
  | false => exact ⟨1, 0, S, by decide, hO, fun M hX => (we_hang_1 (dd := 1) (by decide) (tt_hang_1 hl h1)).mono (fun v M9 q => rc_e hX (by decide) q), fun M hX => (cf_hang (and_f1 (and_f1 h1))).mono (fun v M9 q => rm_e hX (thr_1 (and_f1 h1)) (by decide) q)⟩
  | true =>
    obtain ⟨i, -, hi, rfl⟩ := inI_nat h1 (by decide) (by decide)
    cases h2 : inI b (nI 0) (nI 7) with
    | false => exact ⟨1, 0, S, by decide, hO, fun M hX => (we_hang_1 (dd := 1) (by decide) (tt_hang_2 hl (by omega) h2)).mono (fun v M9 q => rc_e hX (by decide) q), fun M hX => (cf_hang (and_f1 (and_f2 h2))).mono (fun v M9 q => rm_e hX (thr_1 (and_f2 h2)) (by decide) q)⟩
    | true =>
      obtain ⟨j, -, hj, rfl⟩ := inI_nat h2 (by decide) (by decide)
      by_cases he : i = j
      · subst he
        exact ⟨2, 0, S, by decide, hO, fun M hX => (we_hang_2 (dd := 1) (by decide) (tt_hang_3 hl (by omega))).mono (fun v M9 q => rc_e hX (by decide) q), fun M hX => (cf_hang (and_f2 (by rw [decide_eq_true rfl]; rfl))).mono (fun v M9 q => rm_e hX (thr_2 (and_tt h1 h2) (by rw [decide_eq_true rfl]; rfl)) (by decide) q)⟩
      · exact ⟨0, _, svW S (adS S.1 i j), by decide, OkS_svW hO (Wf_adS hW (by omega) (by omega)), fun M hX => (wo_hang (P := fun M1 => Xc M1 (svW S (adS S.1 i j)) ∧ Of M M1 inX) (dd := 3) (by decide) (ct_hang hX hO (by omega) (by omega) he)).mono (fun v M9 q => rc_w q), fun M hX => (cm_hang hX hO (by omega) (by omega) he).mono (fun v M9 q => rm_w q)⟩

set_option maxHeartbeats 4000000 in
theorem bo_takeDown {l : Launch} {G : GG} (hl : l.stackTraces = false) {S : SS} (hO : OkS S) {a : Int32} : Bo l G S yL_takeDown yX6_takeDown wsL_takeDown wsX6_takeDown 8 [.ref (G.2.2 72), .int a, .ref (G.2.2 90)] [.ref (G.2.2 84), .int a] := by
  have hW := hO.1
  have h44 := hW.2.2.1
  cases h1 : inI a (nI 0) (nI (S.1 44) - nI 1) with
  | false => exact ⟨1, 0, S, by decide, hO, fun M hX => (we_takeDown_1 (dd := 1) (by decide) (tt_takeDown_1 hl hX hO h1)).mono (fun v M9 q => rc_e hX (by decide) q), fun M hX => (cf_takeDown hX.1 hW (and_f1 h1)).mono (fun v M9 q => rm_e hX (thr_1 h1) (by decide) q)⟩
  | true =>
    obtain ⟨ch, hc, rfl⟩ := inI_ch h1 h44
    exact ⟨0, _, svW S (rmS S.1 ch), by decide, OkS_svW hO (Wf_rmS hW), fun M hX => (wo_takeDown (P := fun M1 => Xc M1 (svW S (rmS S.1 ch)) ∧ Of M M1 inX) (dd := 6) (by decide) (ct_takeDown hX hO hc)).mono (fun v M9 q => rc_w q), fun M hX => (cm_takeDown hX hO hc).mono (fun v M9 q => rm_w q)⟩

set_option maxHeartbeats 4000000 in
theorem bo_correct {l : Launch} {G : GG} (hl : l.stackTraces = false) {S : SS} (hO : OkS S) {a b : Int32} : Bo l G S yL_correct yX6_correct wsL_correct wsX6_correct 5 [.ref (G.2.2 72), .int a, .int b, .ref (G.2.2 90)] [.ref (G.2.2 84), .int a, .int b] := by
  have hW := hO.1
  have h44 := hW.2.2.1
  cases h1 : inI a (nI 0) (nI (S.1 44) - nI 1) with
  | false => exact ⟨1, 0, S, by decide, hO, fun M hX => (we_correct_1 (dd := 1) (by decide) (tt_correct_1 hl hX hO h1)).mono (fun v M9 q => rc_e hX (by decide) q), fun M hX => (cf_correct hX.1 hW (and_f1 (and_f1 h1))).mono (fun v M9 q => rm_e hX (thr_1 (and_f1 h1)) (by decide) q)⟩
  | true =>
    obtain ⟨ch, hc, rfl⟩ := inI_ch h1 h44
    cases h2 : inI b (nI 0) (nI 3) with
    | false => exact ⟨1, 0, S, by decide, hO, fun M hX => (we_correct_1 (dd := 2) (by decide) (tt_correct_2 hl hX hO hc h2)).mono (fun v M9 q => rc_e hX (by decide) q), fun M hX => (cf_correct hX.1 hW (and_f1 (and_f2 h2))).mono (fun v M9 q => rm_e hX (thr_1 (and_f2 h2)) (by decide) q)⟩
    | true =>
      obtain ⟨p, -, hp, rfl⟩ := inI_nat h2 (by decide) (by decide)
      obtain ⟨az, hz⟩ : ∃ az : Nat × Nat, az = nst S.1 p (S.1 (45 + 2 * ch)) (S.1 (46 + 2 * ch)) 1000 := ⟨_, rfl⟩
      exact ⟨0, _, svW S (mrG az S.1 ch), by decide, OkS_svW hO (Wf_mrG hW (by rw [hz]; exact (nst_in _ _ _ _ 1000).1.1) (by omega)), fun M hX => (wo_correct (P := fun M1 => Xc M1 (svW S (mrG az S.1 ch)) ∧ Of M M1 inX) (dd := 6) (by decide) (ct_correct hX hO hz hc (by omega))).mono (fun v M9 q => rc_w q), fun M hX => (cn_correct hX hO hz hc (by omega)).mono (fun v M9 q => rm_w q)⟩

set_option maxHeartbeats 4000000 in
theorem bo_append {l : Launch} {G : GG} (hl : l.stackTraces = false) {S : SS} (hO : OkS S) {a : Int32} : Bo l G S yL_append yX6_append wsL_append wsX6_append 2 [.ref (G.2.2 72), .int a, .ref (G.2.2 90)] [.ref (G.2.2 84), .int a] := by
  have hW := hO.1
  have h44 := hW.2.2.1
  cases h1 : inI a (nI 33) (nI 126) with
  | false => exact ⟨1, 0, S, by decide, hO, fun M hX => (we_append_1 (dd := 1) (by decide) (tt_append_1 hl h1)).mono (fun v M9 q => rc_e hX (by decide) q), fun M hX => (cf_append hX.2.2.2.2.2.1 hX.2.2.2.2.1 (and_f1 h1)).mono (fun v M9 q => rm_e hX (thr_1 h1) (by decide) q)⟩
  | true =>
    obtain ⟨k, hk1, hk2, rfl⟩ := inI_nat h1 (by decide) (by decide)
    by_cases hn : S.2.2.2.2.2.1 < 60
    · exact ⟨0, _, st_text S k, by decide, hO, fun M hX => (wo_append (P := fun M1 => Xc M1 (st_text S k) ∧ Of M M1 inX) (dd := 2) (by decide) (ct_append hX hO hk1 hk2 hn)).mono (fun v M9 q => rc_w q), fun M hX => (cm_append hX hO hk1 hk2 hn).mono (fun v M9 q => rm_w q)⟩
    · exact ⟨2, 0, S, by decide, hO, fun M hX => (we_append_2 (dd := 1) (by decide) (tt_append_2 hl hX hO hk1 hk2 (by omega))).mono (fun v M9 q => rc_e hX (by decide) q), fun M hX => (cf_append hX.2.2.2.2.2.1 hX.2.2.2.2.1 (and_f2 (decide_eq_false hn))).mono (fun v M9 q => rm_e hX (thr_2 h1 (decide_eq_false hn)) (by decide) q)⟩

set_option maxHeartbeats 4000000 in
theorem bo_load {l : Launch} {G : GG} (hl : l.stackTraces = false) {S : SS} (hO : OkS S) : Bo l G S yL_load yX6_load wsL_load wsX6_load 7 [.ref (G.2.2 72), .ref (G.2.2 90)] [.ref (G.2.2 84)] := by
  have hW := hO.1
  have h44 := hW.2.2.1
  cases ht : tpT S.2.2.2.2.2.1 S.2.2.2.2.2.2 with
  | false => exact ⟨1, 0, S, by decide, hO, fun M hX => (we_load_1 (dd := 2) (by decide) (tt_load_1 hl hX hO ht)).mono (fun v M9 q => rc_e hX (by decide) q), fun M hX => (cf_load hX ht).mono (fun v M9 q => rm_t hX (by decide) q)⟩
  | true => exact ⟨0, _, setT (svW S (gvS S.1 S.2.2.2.2.2.2 (S.2.2.2.2.2.1 / 6 + 1))) 0 S.2.2.2.2.2.2, by decide, OkS.text (OkS_svW hO (hW.gvS ht _ (by have := tpT_5 ht; omega))), fun M hX => (wo_load (P := fun M1 => Xc M1 (setT (svW S (gvS S.1 S.2.2.2.2.2.2 (S.2.2.2.2.2.1 / 6 + 1))) 0 S.2.2.2.2.2.2) ∧ Of M M1 inX) (dd := 5) (by decide) (ct_load hX hO ht)).mono (fun v M9 q => rc_w q), fun M hX => (cn_load hX hO ht).mono (fun v M9 q => rm_w q)⟩

set_option maxHeartbeats 4000000 in
theorem bo_keep {l : Launch} {G : GG} (hl : l.stackTraces = false) {S : SS} (hO : OkS S) {a : Int32} : Bo l G S yL_keep yX6_keep wsL_keep wsX6_keep 3 [.ref (G.2.2 72), .int a, .ref (G.2.2 90)] [.ref (G.2.2 84), .int a] := by
  have hW := hO.1
  have h44 := hW.2.2.1
  cases h1 : inI a (nI 0) (nI 1) with
  | false => exact ⟨1, 0, S, by decide, hO, fun M hX => (we_keep_1 (dd := 1) (by decide) (tt_keep_1 hl h1)).mono (fun v M9 q => rc_e hX (by decide) q), fun M hX => (cf_keep (and_f1 (isS_no h1))).mono (fun v M9 q => rm_e hX (thr_1 (isS_no h1)) (by decide) q)⟩
  | true =>
    obtain ⟨sl, -, hsl, rfl⟩ := inI_nat h1 (by decide) (by decide)
    exact ⟨0, _, setSl S sl S.1, by decide, OkS.keep hO, fun M hX => (wo_keep (P := fun M1 => Xc M1 (setSl S sl S.1) ∧ Of M M1 inX) (dd := 2) (by decide) (ct_keep hX hO (by omega))).mono (fun v M9 q => rc_w q), fun M hX => (cn_keep hX hO (by omega)).mono (fun v M9 q => rm_w q)⟩

set_option maxHeartbeats 4000000 in
theorem bo_goBack {l : Launch} {G : GG} (hl : l.stackTraces = false) {S : SS} (hO : OkS S) {a : Int32} : Bo l G S yL_goBack yX6_goBack wsL_goBack wsX6_goBack 3 [.ref (G.2.2 72), .int a, .ref (G.2.2 90)] [.ref (G.2.2 84), .int a] := by
  have hW := hO.1
  have h44 := hW.2.2.1
  cases h1 : inI a (nI 0) (nI 1) with
  | false => exact ⟨1, 0, S, by decide, hO, fun M hX => (we_goBack_1 (dd := 1) (by decide) (tt_goBack_1 hl h1)).mono (fun v M9 q => rc_e hX (by decide) q), fun M hX => (cf_goBack1 (isS_no h1)).mono (fun v M9 q => rm_t hX (by decide) q)⟩
  | true =>
    obtain ⟨sl, -, hsl, rfl⟩ := inI_nat h1 (by decide) (by decide)
    cases hf : S.2.2.2.2.1 sl with
    | false => exact ⟨2, 0, S, by decide, hO, fun M hX => (we_goBack_2 (dd := 1) (by decide) (tt_goBack_2 hl hX hO (by omega) hf)).mono (fun v M9 q => rc_e hX (by decide) q), fun M hX => (cf_goBack2 hX (by omega) hf).mono (fun v M9 q => rm_t hX (by decide) q)⟩
    | true => exact ⟨0, _, svW S (S.2.2.2.1 sl), by decide, OkS_svW hO (hO.2.2 sl (by omega) hf), fun M hX => (wo_goBack (P := fun M1 => Xc M1 (svW S (S.2.2.2.1 sl)) ∧ Of M M1 inX) (dd := 3) (by decide) (ct_goBack hX hO (by omega) hf)).mono (fun v M9 q => rc_w q), fun M hX => (cm_goBack hX hO (by omega) hf).mono (fun v M9 q => rm_w q)⟩

set_option maxHeartbeats 4000000 in
theorem bo_undo {l : Launch} {G : GG} (hl : l.stackTraces = false) {S : SS} (hO : OkS S) : Bo l G S yL_undo yX6_undo wsL_undo wsX6_undo 3 [.ref (G.2.2 72), .ref (G.2.2 90)] [.ref (G.2.2 84)] := by
  have hW := hO.1
  have h44 := hW.2.2.1
  by_cases h0 : S.2.1 = 0
  · exact ⟨1, 0, S, by decide, hO, fun M hX => (we_undo_1 (dd := 1) (by decide) (tt_undo_1 hl hX hO h0)).mono (fun v M9 q => rc_e hX (by decide) q), fun M hX => (cf_undo hX h0).mono (fun v M9 q => rm_t hX (by decide) q)⟩
  · exact ⟨0, _, popS S, by decide, OkS.pop hO (by omega), fun M hX => (wo_undo (P := fun M1 => Xc M1 (popS S) ∧ Of M M1 inX) (dd := 3) (by decide) (ct_undo hX hO (by omega))).mono (fun v M9 q => rc_w q), fun M hX => (cm_undo hX hO (by omega)).mono (fun v M9 q => rm_w q)⟩

set_option maxHeartbeats 4000000 in
theorem bo_potOf {l : Launch} {G : GG} (hl : l.stackTraces = false) {S : SS} (hO : OkS S) {a b : Int32} : Bo l G S yL_potOf yX6_potOf wsL_potOf wsX6_potOf 8 [.ref (G.2.2 72), .int a, .int b, .ref (G.2.2 90)] [.ref (G.2.2 84), .int a, .int b] := by
  have hW := hO.1
  have h44 := hW.2.2.1
  cases h1 : inI a (nI 0) (nI 7) with
  | false => exact ⟨1, 0, S, by decide, hO, fun M hX => (we_potOf_1 (dd := 1) (by decide) (tt_potOf_1 hl h1)).mono (fun v M9 q => rc_e hX (by decide) q), fun M hX => (cf_potOf (and_f1 h1)).mono (fun v M9 q => rm_e hX (thr_1 h1) (by decide) q)⟩
  | true =>
    obtain ⟨i, -, hi, rfl⟩ := inI_nat h1 (by decide) (by decide)
    cases h2 : inI b (nI 0) (nI 4) with
    | false => exact ⟨2, 0, S, by decide, hO, fun M hX => (we_potOf_2 (dd := 1) (by decide) (tt_potOf_2 hl (by omega) h2)).mono (fun v M9 q => rc_e hX (by decide) q), fun M hX => (cf_potOf (and_f2 h2)).mono (fun v M9 q => rm_e hX (thr_2 h1 h2) (by decide) q)⟩
    | true =>
      obtain ⟨k, -, hk, rfl⟩ := inI_nat h2 (by decide) (by decide)
      exact ⟨0, _, S, by decide, hO, fun M hX => (wo_potOf (P := fun M1 => M1 = M) (dd := 6) (by decide) (ct_potOf hX hO (by omega) hk)).mono (fun v M9 q => rc_r hX q), fun M hX => (cm_potOf hX hO (by omega) hk).mono (fun v M9 q => rm_w q)⟩

set_option maxHeartbeats 4000000 in
theorem bo_seen {l : Launch} {G : GG} (hl : l.stackTraces = false) {S : SS} (hO : OkS S) {a b : Int32} : Bo l G S yL_seen yX6_seen wsL_seen wsX6_seen 3 [.ref (G.2.2 72), .int a, .int b, .ref (G.2.2 90)] [.ref (G.2.2 84), .int a, .int b] := by
  have hW := hO.1
  have h44 := hW.2.2.1
  cases h1 : inI a (nI 0) (nI 3) with
  | false => exact ⟨1, 0, S, by decide, hO, fun M hX => (we_seen_1 (dd := 1) (by decide) (tt_seen_1 hl h1)).mono (fun v M9 q => rc_e hX (by decide) q), fun M hX => (cf_seen (and_f1 (and_f1 h1))).mono (fun v M9 q => rm_e hX (thr_1 (and_f1 h1)) (by decide) q)⟩
  | true =>
    obtain ⟨p, -, hp, rfl⟩ := inI_nat h1 (by decide) (by decide)
    cases h2 : inI b (nI 0) (nI 7) with
    | false => exact ⟨1, 0, S, by decide, hO, fun M hX => (we_seen_1 (dd := 1) (by decide) (tt_seen_2 hl (by omega) h2)).mono (fun v M9 q => rc_e hX (by decide) q), fun M hX => (cf_seen (and_f1 (and_f2 h2))).mono (fun v M9 q => rm_e hX (thr_1 (and_f2 h2)) (by decide) q)⟩
    | true =>
      obtain ⟨i, -, hi, rfl⟩ := inI_nat h2 (by decide) (by decide)
      exact ⟨0, _, S, by decide, hO, fun M hX => (wo_seen (P := fun M1 => M1 = M) (dd := 2) (by decide) (ct_seen hX hO (by omega) (by omega))).mono (fun v M9 q => rc_r hX q), fun M hX => (cm_seen hX hO (by omega) (by omega)).mono (fun v M9 q => rm_w q)⟩

set_option maxHeartbeats 4000000 in
theorem bo_painterOf {l : Launch} {G : GG} (hl : l.stackTraces = false) {S : SS} (hO : OkS S) {a b : Int32} : Bo l G S yL_painterOf yX6_painterOf wsL_painterOf wsX6_painterOf 9 [.ref (G.2.2 72), .int a, .int b, .ref (G.2.2 90)] [.ref (G.2.2 84), .int a, .int b] := by
  have hW := hO.1
  have h44 := hW.2.2.1
  cases h1 : inI a (nI 0) (nI 3) with
  | false => exact ⟨1, 0, S, by decide, hO, fun M hX => (we_painterOf_1 (dd := 1) (by decide) (tt_painterOf_1 hl h1)).mono (fun v M9 q => rc_e hX (by decide) q), fun M hX => (cf_painterOf (and_f1 h1)).mono (fun v M9 q => rm_e hX (thr_1 h1) (by decide) q)⟩
  | true =>
    obtain ⟨p, -, hp, rfl⟩ := inI_nat h1 (by decide) (by decide)
    cases h2 : inI b (nI 0) (nI 6) with
    | false => exact ⟨2, 0, S, by decide, hO, fun M hX => (we_painterOf_2 (dd := 1) (by decide) (tt_painterOf_2 hl (by omega) h2)).mono (fun v M9 q => rc_e hX (by decide) q), fun M hX => (cf_painterOf (and_f2 h2)).mono (fun v M9 q => rm_e hX (thr_2 h1 h2) (by decide) q)⟩
    | true =>
      obtain ⟨k, -, hk, rfl⟩ := inI_nat h2 (by decide) (by decide)
      exact ⟨0, _, S, by decide, hO, fun M hX => (wo_painterOf (P := fun M1 => M1 = M) (dd := 6) (by decide) (ct_painterOf hX hO (by omega) hk)).mono (fun v M9 q => rc_r hX q), fun M hX => (cm_painterOf hX hO (by omega) hk).mono (fun v M9 q => rm_w q)⟩

set_option maxHeartbeats 4000000 in
theorem bo_apart {l : Launch} {G : GG} (hl : l.stackTraces = false) {S : SS} (hO : OkS S) {a b d : Int32} : Bo l G S yL_apart yX6_apart wsL_apart wsX6_apart 6 [.ref (G.2.2 72), .int a, .int b, .int d, .ref (G.2.2 90)] [.ref (G.2.2 84), .int a, .int b, .int d] := by
  have hW := hO.1
  have h44 := hW.2.2.1
  cases h1 : inI a (nI 0) (nI 3) with
  | false => exact ⟨1, 0, S, by decide, hO, fun M hX => (we_apart_1 (dd := 1) (by decide) (tt_apart_1 hl h1)).mono (fun v M9 q => rc_e hX (by decide) q), fun M hX => (cf_apart (and_f1 (and_f1 h1))).mono (fun v M9 q => rm_e hX (thr_1 (and_f1 h1)) (by decide) q)⟩
  | true =>
    obtain ⟨p, -, hp, rfl⟩ := inI_nat h1 (by decide) (by decide)
    cases h2 : inI b (nI 0) (nI 7) with
    | false => exact ⟨1, 0, S, by decide, hO, fun M hX => (we_apart_1 (dd := 1) (by decide) (tt_apart_2 hl (by omega) h2)).mono (fun v M9 q => rc_e hX (by decide) q), fun M hX => (cf_apart (and_f1 (and_f2 (and_f1 h2)))).mono (fun v M9 q => rm_e hX (thr_1 (and_f2 (and_f1 h2))) (by decide) q)⟩
    | true =>
      obtain ⟨i, -, hi, rfl⟩ := inI_nat h2 (by decide) (by decide)
      cases h3 : inI d (nI 0) (nI 7) with
      | false => exact ⟨1, 0, S, by decide, hO, fun M hX => (we_apart_1 (dd := 1) (by decide) (tt_apart_3 hl (by omega) (by omega) h3)).mono (fun v M9 q => rc_e hX (by decide) q), fun M hX => (cf_apart (and_f1 (and_f2 (and_f2 h3)))).mono (fun v M9 q => rm_e hX (thr_1 (and_f2 (and_f2 h3))) (by decide) q)⟩
      | true =>
        obtain ⟨j, -, hj, rfl⟩ := inI_nat h3 (by decide) (by decide)
        exact ⟨0, _, S, by decide, hO, fun M hX => (wo_apart (P := fun M1 => M1 = M) (dd := 5) (by decide) (ct_apart hX hO (by omega) (by omega) (by omega))).mono (fun v M9 q => rc_r hX q), fun M hX => (cn_apart hX hO (by omega) (by omega) (by omega)).mono (fun v M9 q => rm_w q)⟩

set_option maxHeartbeats 4000000 in
theorem bo_chartOf {l : Launch} {G : GG} (hl : l.stackTraces = false) {S : SS} (hO : OkS S) {a b : Int32} : Bo l G S yL_chartOf yX6_chartOf wsL_chartOf wsX6_chartOf 9 [.ref (G.2.2 72), .int a, .int b, .ref (G.2.2 90)] [.ref (G.2.2 84), .int a, .int b] := by
  have hW := hO.1
  have h44 := hW.2.2.1
  cases h1 : inI a (nI 0) (nI (S.1 44) - nI 1) with
  | false => exact ⟨1, 0, S, by decide, hO, fun M hX => (we_chartOf_1 (dd := 1) (by decide) (tt_chartOf_1 hl hX hO h1)).mono (fun v M9 q => rc_e hX (by decide) q), fun M hX => (cf_chartOf hX.1 hW (and_f1 h1)).mono (fun v M9 q => rm_e hX (thr_1 h1) (by decide) q)⟩
  | true =>
    obtain ⟨ch, hc, rfl⟩ := inI_ch h1 h44
    cases h2 : inI b (nI 0) (nI 2) with
    | false => exact ⟨2, 0, S, by decide, hO, fun M hX => (we_chartOf_2 (dd := 2) (by decide) (tt_chartOf_2 hl hX hO hc h2)).mono (fun v M9 q => rc_e hX (by decide) q), fun M hX => (cf_chartOf hX.1 hW (and_f2 h2)).mono (fun v M9 q => rm_e hX (thr_2 h1 h2) (by decide) q)⟩
    | true =>
      obtain ⟨k, -, hk, rfl⟩ := inI_nat h2 (by decide) (by decide)
      exact ⟨0, _, S, by decide, hO, fun M hX => (wo_chartOf (P := fun M1 => M1 = M) (dd := 6) (by decide) (ct_chartOf hX hO hc hk)).mono (fun v M9 q => rc_r hX q), fun M hX => (cm_chartOf hX hO hc hk).mono (fun v M9 q => rm_w q)⟩

set_option maxHeartbeats 4000000 in
theorem bo_count {l : Launch} {G : GG} (hl : l.stackTraces = false) {S : SS} (hO : OkS S) {a : Int32} : Bo l G S yL_count yX6_count wsL_count wsX6_count 10 [.ref (G.2.2 72), .int a, .ref (G.2.2 90)] [.ref (G.2.2 84), .int a] := by
  have hW := hO.1
  have h44 := hW.2.2.1
  cases h1 : inI a (nI 0) (nI 7) with
  | false => exact ⟨1, 0, S, by decide, hO, fun M hX => (we_count_1 (dd := 1) (by decide) (tt_count_1 hl h1)).mono (fun v M9 q => rc_e hX (by decide) q), fun M hX => (cf_count (and_f1 h1)).mono (fun v M9 q => rm_e hX (thr_1 h1) (by decide) q)⟩
  | true =>
    obtain ⟨k, -, hk, rfl⟩ := inI_nat h1 (by decide) (by decide)
    exact ⟨0, _, S, by decide, hO, fun M hX => (wo_count (P := fun M1 => M1 = M) (dd := 7) (by decide) (ct_count hX hO hk)).mono (fun v M9 q => rc_r hX q), fun M hX => (cm_count hX hO hk).mono (fun v M9 q => rm_w q)⟩

set_option maxHeartbeats 4000000 in
theorem bo_fewest {l : Launch} {G : GG} (hl : l.stackTraces = false) {S : SS} (hO : OkS S) {a b : Int32} : Bo l G S yL_fewest yX6_fewest wsL_fewest wsX6_fewest 8 [.ref (G.2.2 72), .int a, .int b, .ref (G.2.2 90)] [.ref (G.2.2 84), .int a, .int b] := by
  have hW := hO.1
  have h44 := hW.2.2.1
  cases h1 : inI a (nI 0) (nI 3) with
  | false => exact ⟨1, 0, S, by decide, hO, fun M hX => (we_fewest_1 (dd := 1) (by decide) (tt_fewest_1 hl h1)).mono (fun v M9 q => rc_e hX (by decide) q), fun M hX => (cf_fewest (and_f1 h1)).mono (fun v M9 q => rm_e hX (thr_1 h1) (by decide) q)⟩
  | true =>
    obtain ⟨p, -, hp, rfl⟩ := inI_nat h1 (by decide) (by decide)
    cases h2 : inI b (nI 0) (nI 1) with
    | false => exact ⟨2, 0, S, by decide, hO, fun M hX => (we_fewest_2 (dd := 1) (by decide) (tt_fewest_2 hl (by omega) h2)).mono (fun v M9 q => rc_e hX (by decide) q), fun M hX => (cf_fewest (and_f2 h2)).mono (fun v M9 q => rm_e hX (thr_2 h1 h2) (by decide) q)⟩
    | true =>
      obtain ⟨k, -, hk, rfl⟩ := inI_nat h2 (by decide) (by decide)
      obtain ⟨cp, hcp⟩ := Chi.ex (ap_self S.1 p) (fun _ => true)
      rcases (show k = 0 ∨ k = 1 by omega) with rfl | rfl
      · exact ⟨0, _, S, by decide, hO, fun M hX => (wo_fewest (P := fun M1 => Xc M1 (S) ∧ Of M M1 inX) (dd := 11) (by decide) (ct_fewest_0 hX hO hcp (by omega))).mono (fun v M9 q => rc_w q), fun M hX => (cn_fewest_0 hX hO hcp (by omega)).mono (fun v M9 q => rm_w q)⟩
      · exact ⟨0, _, S, by decide, hO, fun M hX => (wo_fewest (P := fun M1 => Xc M1 (S) ∧ Of M M1 inX) (dd := 11) (by decide) (ct_fewest_1 hX hO hcp (by omega))).mono (fun v M9 q => rc_w q), fun M hX => (cn_fewest_1 hX hO hcp (by omega)).mono (fun v M9 q => rm_w q)⟩

set_option maxHeartbeats 4000000 in
theorem bo_ifBorrowed {l : Launch} {G : GG} (hl : l.stackTraces = false) {S : SS} (hO : OkS S) {a b : Int32} : Bo l G S yL_ifBorrowed yX6_ifBorrowed wsL_ifBorrowed wsX6_ifBorrowed 7 [.ref (G.2.2 72), .int a, .int b, .ref (G.2.2 90)] [.ref (G.2.2 84), .int a, .int b] := by
  have hW := hO.1
  have h44 := hW.2.2.1
  cases h1 : inI a (nI 0) (nI 3) with
  | false => exact ⟨1, 0, S, by decide, hO, fun M hX => (we_ifBorrowed_1 (dd := 1) (by decide) (tt_ifBorrowed_1 hl h1)).mono (fun v M9 q => rc_e hX (by decide) q), fun M hX => (cf_ifBorrowed (and_f1 (and_f1 h1))).mono (fun v M9 q => rm_e hX (thr_1 (and_f1 h1)) (by decide) q)⟩
  | true =>
    obtain ⟨p, -, hp, rfl⟩ := inI_nat h1 (by decide) (by decide)
    cases h2 : inI b (nI 0) (nI 3) with
    | false => exact ⟨1, 0, S, by decide, hO, fun M hX => (we_ifBorrowed_1 (dd := 1) (by decide) (tt_ifBorrowed_2 hl (by omega) h2)).mono (fun v M9 q => rc_e hX (by decide) q), fun M hX => (cf_ifBorrowed (and_f1 (and_f2 h2))).mono (fun v M9 q => rm_e hX (thr_1 (and_f2 h2)) (by decide) q)⟩
    | true =>
      obtain ⟨q, -, hq, rfl⟩ := inI_nat h2 (by decide) (by decide)
      exact ⟨0, _, S, by decide, hO, fun M hX => (wo_ifBorrowed (P := fun M1 => M1 = M) (dd := 5) (by decide) (ct_ifBorrowed hX hO (by omega) (by omega))).mono (fun v M9 q => rc_r hX q), fun M hX => (cm_ifBorrowed hX hO (by omega) (by omega)).mono (fun v M9 q => rm_w q)⟩

set_option maxHeartbeats 4000000 in
theorem bo_leastChange {l : Launch} {G : GG} (hl : l.stackTraces = false) {S : SS} (hO : OkS S) {a b d : Int32} : Bo l G S yL_leastChange yX6_leastChange wsL_leastChange wsX6_leastChange 5 [.ref (G.2.2 72), .int a, .int b, .int d, .ref (G.2.2 90)] [.ref (G.2.2 84), .int a, .int b, .int d] := by
  have hW := hO.1
  have h44 := hW.2.2.1
  cases h1 : inI a (nI 0) (nI 3) with
  | false => exact ⟨1, 0, S, by decide, hO, fun M hX => (we_leastChange_1 (dd := 1) (by decide) (tt_leastChange_1 hl h1)).mono (fun v M9 q => rc_e hX (by decide) q), fun M hX => (cf_leastChange (and_f1 (and_f1 h1))).mono (fun v M9 q => rm_e hX (thr_1 (and_f1 h1)) (by decide) q)⟩
  | true =>
    obtain ⟨p, -, hp, rfl⟩ := inI_nat h1 (by decide) (by decide)
    cases h2 : inI b (nI 0) (nI 7) with
    | false => exact ⟨1, 0, S, by decide, hO, fun M hX => (we_leastChange_1 (dd := 1) (by decide) (tt_leastChange_2 hl (by omega) h2)).mono (fun v M9 q => rc_e hX (by decide) q), fun M hX => (cf_leastChange (and_f1 (and_f2 (and_f1 h2)))).mono (fun v M9 q => rm_e hX (thr_1 (and_f2 (and_f1 h2))) (by decide) q)⟩
    | true =>
      obtain ⟨i, -, hi, rfl⟩ := inI_nat h2 (by decide) (by decide)
      cases h3 : inI d (nI 0) (nI 7) with
      | false => exact ⟨1, 0, S, by decide, hO, fun M hX => (we_leastChange_1 (dd := 1) (by decide) (tt_leastChange_3 hl (by omega) (by omega) h3)).mono (fun v M9 q => rc_e hX (by decide) q), fun M hX => (cf_leastChange (and_f1 (and_f2 (and_f2 h3)))).mono (fun v M9 q => rm_e hX (thr_1 (and_f2 (and_f2 h3))) (by decide) q)⟩
      | true =>
        obtain ⟨j, -, hj, rfl⟩ := inI_nat h3 (by decide) (by decide)
        by_cases he : i = j
        · subst he
          exact ⟨2, 0, S, by decide, hO, fun M hX => (we_leastChange_2 (dd := 1) (by decide) (tt_leastChange_4 hl (by omega) (by omega))).mono (fun v M9 q => rc_e hX (by decide) q), fun M hX => (cf_leastChange (and_f2 (by rw [decide_eq_true rfl]; rfl))).mono (fun v M9 q => rm_e hX (thr_2 (and_tt h1 (and_tt h2 h3)) (by rw [decide_eq_true rfl]; rfl)) (by decide) q)⟩
        · obtain ⟨az, hz⟩ : ∃ az : Nat × Nat, az = nst S.1 p i j 1000 := ⟨_, rfl⟩
          exact ⟨0, _, S, by decide, hO, fun M hX => (wo_leastChange (P := fun M1 => M1 = M) (dd := 5) (by decide) (ct_leastChange hX hO hz (by omega) (by omega) (by omega) he)).mono (fun v M9 q => rc_r hX q), fun M hX => (cm_leastChange hX hO hz (by omega) (by omega) (by omega) he).mono (fun v M9 q => rm_w q)⟩
